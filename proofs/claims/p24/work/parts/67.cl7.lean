abbrev tow_f0 (y : Nat → ClassId) (ad : Nat → Nat) (σ : OS) : List Value := [.ref (ad 41), .ref (ad 42), .ref (ad 43), .ref (ad 44), .int (σ.1 45), .int (σ.1 46)]
def tow (y : Nat → ClassId) (ad : Nat → Nat) (σ : OS) : va_W := [((ad 40), .inr (9, tow_f0 y ad σ)), (ad 41, .inl (y 3, 14, .inr (.inl (σ.2.2.2 41)))), (ad 42, .inl (y 2, 700, .inl (σ.2.2.1 42))), (ad 43, .inl (y 2, 700, .inl (σ.2.2.1 43))), (ad 44, .inl (y 3, 700, .inr (.inl (σ.2.2.2 44))))]
theorem tow_o0 {y : Nat → ClassId} {ad : Nat → Nat} {σ : OS} : (tow y ad σ)[0]? = some ((ad 40), .inr (9, tow_f0 y ad σ)) := rfl
theorem tow_p0_4 {y : Nat → ClassId} {ad : Nat → Nat} {σ : OS} {v : Int32} : (tow y ad σ).set 0 ((ad 40), .inr (9, (tow_f0 y ad σ).set 4 (.int v))) = tow y ad (sI σ 45 v) := rfl
theorem tow_p0_5 {y : Nat → ClassId} {ad : Nat → Nat} {σ : OS} {v : Int32} : (tow y ad σ).set 0 ((ad 40), .inr (9, (tow_f0 y ad σ).set 5 (.int v))) = tow y ad (sI σ 46 v) := rfl
theorem tow_a1 {y : Nat → ClassId} {ad : Nat → Nat} {σ : OS} : (tow y ad σ)[1]? = some (ad 41, .inl (y 3, 14, .inr (.inl (σ.2.2.2 41)))) := rfl
theorem tow_s1 {y : Nat → ClassId} {ad : Nat → Nat} {σ : OS} {g : Nat → Int64} : (tow y ad σ).set 1 (ad 41, .inl (y 3, 14, .inr (.inl g))) = tow y ad (tJ σ 41 g) := rfl
theorem tow_a2 {y : Nat → ClassId} {ad : Nat → Nat} {σ : OS} : (tow y ad σ)[2]? = some (ad 42, .inl (y 2, 700, .inl (σ.2.2.1 42))) := rfl
theorem tow_s2 {y : Nat → ClassId} {ad : Nat → Nat} {σ : OS} {g : Nat → Int32} : (tow y ad σ).set 2 (ad 42, .inl (y 2, 700, .inl g)) = tow y ad (tI σ 42 g) := rfl
theorem tow_a3 {y : Nat → ClassId} {ad : Nat → Nat} {σ : OS} : (tow y ad σ)[3]? = some (ad 43, .inl (y 2, 700, .inl (σ.2.2.1 43))) := rfl
theorem tow_s3 {y : Nat → ClassId} {ad : Nat → Nat} {σ : OS} {g : Nat → Int32} : (tow y ad σ).set 3 (ad 43, .inl (y 2, 700, .inl g)) = tow y ad (tI σ 43 g) := rfl
theorem tow_a4 {y : Nat → ClassId} {ad : Nat → Nat} {σ : OS} : (tow y ad σ)[4]? = some (ad 44, .inl (y 3, 700, .inr (.inl (σ.2.2.2 44)))) := rfl
theorem tow_s4 {y : Nat → ClassId} {ad : Nat → Nat} {σ : OS} {g : Nat → Int64} : (tow y ad σ).set 4 (ad 44, .inl (y 3, 700, .inr (.inl g))) = tow y ad (tJ σ 44 g) := rfl
abbrev prw_f0 (y : Nat → ClassId) (ad : Nat → Nat) (σ : OS) : List Value := [.ref (ad 40), .ref (ad 60), .int (σ.1 33), .int (σ.1 34), .int (σ.1 35), .int (σ.1 36), .int (σ.1 37), .int (σ.1 38)]
abbrev prw_f1 (y : Nat → ClassId) (ad : Nat → Nat) (σ : OS) : List Value := [.ref (ad 41), .ref (ad 42), .ref (ad 43), .ref (ad 44), .int (σ.1 45), .int (σ.1 46)]
abbrev prw_f2 (y : Nat → ClassId) (ad : Nat → Nat) (σ : OS) : List Value := [.int (σ.1 61), .int (σ.1 62), .int (σ.1 63), .int (σ.1 64), .int (σ.1 65), .int (σ.1 66), .ref (ad 67), .int (σ.1 68), .ref (ad 69), .ref (ad 70), .ref (ad 71), .ref (ad 72), .ref (ad 73)]
def prw (y : Nat → ClassId) (ad : Nat → Nat) (σ : OS) : va_W := [((ad 30), .inr (4, prw_f0 y ad σ)), ((ad 40), .inr (9, prw_f1 y ad σ)), ((ad 60), .inr (5, prw_f2 y ad σ)), (ad 41, .inl (y 3, 14, .inr (.inl (σ.2.2.2 41)))), (ad 42, .inl (y 2, 700, .inl (σ.2.2.1 42))), (ad 43, .inl (y 2, 700, .inl (σ.2.2.1 43))), (ad 44, .inl (y 3, 700, .inr (.inl (σ.2.2.2 44)))), (ad 67, .inl (y 2, 4, .inl (σ.2.2.1 67))), (ad 69, .inl (y 3, 24, .inr (.inl (σ.2.2.2 69)))), (ad 70, .inl (y 2, 24, .inl (σ.2.2.1 70))), (ad 71, .inl (y 2, 350, .inl (σ.2.2.1 71))), (ad 72, .inl (y 2, 700, .inl (σ.2.2.1 72))), (ad 73, .inl (y 2, 700, .inl (σ.2.2.1 73)))]
theorem prw_o0 {y : Nat → ClassId} {ad : Nat → Nat} {σ : OS} : (prw y ad σ)[0]? = some ((ad 30), .inr (4, prw_f0 y ad σ)) := rfl
theorem prw_p0_2 {y : Nat → ClassId} {ad : Nat → Nat} {σ : OS} {v : Int32} : (prw y ad σ).set 0 ((ad 30), .inr (4, (prw_f0 y ad σ).set 2 (.int v))) = prw y ad (sI σ 33 v) := rfl
theorem prw_p0_3 {y : Nat → ClassId} {ad : Nat → Nat} {σ : OS} {v : Int32} : (prw y ad σ).set 0 ((ad 30), .inr (4, (prw_f0 y ad σ).set 3 (.int v))) = prw y ad (sI σ 34 v) := rfl
theorem prw_p0_4 {y : Nat → ClassId} {ad : Nat → Nat} {σ : OS} {v : Int32} : (prw y ad σ).set 0 ((ad 30), .inr (4, (prw_f0 y ad σ).set 4 (.int v))) = prw y ad (sI σ 35 v) := rfl
theorem prw_p0_5 {y : Nat → ClassId} {ad : Nat → Nat} {σ : OS} {v : Int32} : (prw y ad σ).set 0 ((ad 30), .inr (4, (prw_f0 y ad σ).set 5 (.int v))) = prw y ad (sI σ 36 v) := rfl
theorem prw_p0_6 {y : Nat → ClassId} {ad : Nat → Nat} {σ : OS} {v : Int32} : (prw y ad σ).set 0 ((ad 30), .inr (4, (prw_f0 y ad σ).set 6 (.int v))) = prw y ad (sI σ 37 v) := rfl
theorem prw_p0_7 {y : Nat → ClassId} {ad : Nat → Nat} {σ : OS} {v : Int32} : (prw y ad σ).set 0 ((ad 30), .inr (4, (prw_f0 y ad σ).set 7 (.int v))) = prw y ad (sI σ 38 v) := rfl
theorem prw_o1 {y : Nat → ClassId} {ad : Nat → Nat} {σ : OS} : (prw y ad σ)[1]? = some ((ad 40), .inr (9, prw_f1 y ad σ)) := rfl
theorem prw_p1_4 {y : Nat → ClassId} {ad : Nat → Nat} {σ : OS} {v : Int32} : (prw y ad σ).set 1 ((ad 40), .inr (9, (prw_f1 y ad σ).set 4 (.int v))) = prw y ad (sI σ 45 v) := rfl
theorem prw_p1_5 {y : Nat → ClassId} {ad : Nat → Nat} {σ : OS} {v : Int32} : (prw y ad σ).set 1 ((ad 40), .inr (9, (prw_f1 y ad σ).set 5 (.int v))) = prw y ad (sI σ 46 v) := rfl
theorem prw_o2 {y : Nat → ClassId} {ad : Nat → Nat} {σ : OS} : (prw y ad σ)[2]? = some ((ad 60), .inr (5, prw_f2 y ad σ)) := rfl
theorem prw_p2_0 {y : Nat → ClassId} {ad : Nat → Nat} {σ : OS} {v : Int32} : (prw y ad σ).set 2 ((ad 60), .inr (5, (prw_f2 y ad σ).set 0 (.int v))) = prw y ad (sI σ 61 v) := rfl
theorem prw_p2_1 {y : Nat → ClassId} {ad : Nat → Nat} {σ : OS} {v : Int32} : (prw y ad σ).set 2 ((ad 60), .inr (5, (prw_f2 y ad σ).set 1 (.int v))) = prw y ad (sI σ 62 v) := rfl
theorem prw_p2_2 {y : Nat → ClassId} {ad : Nat → Nat} {σ : OS} {v : Int32} : (prw y ad σ).set 2 ((ad 60), .inr (5, (prw_f2 y ad σ).set 2 (.int v))) = prw y ad (sI σ 63 v) := rfl
theorem prw_p2_3 {y : Nat → ClassId} {ad : Nat → Nat} {σ : OS} {v : Int32} : (prw y ad σ).set 2 ((ad 60), .inr (5, (prw_f2 y ad σ).set 3 (.int v))) = prw y ad (sI σ 64 v) := rfl
theorem prw_p2_4 {y : Nat → ClassId} {ad : Nat → Nat} {σ : OS} {v : Int32} : (prw y ad σ).set 2 ((ad 60), .inr (5, (prw_f2 y ad σ).set 4 (.int v))) = prw y ad (sI σ 65 v) := rfl
theorem prw_p2_5 {y : Nat → ClassId} {ad : Nat → Nat} {σ : OS} {v : Int32} : (prw y ad σ).set 2 ((ad 60), .inr (5, (prw_f2 y ad σ).set 5 (.int v))) = prw y ad (sI σ 66 v) := rfl
theorem prw_p2_7 {y : Nat → ClassId} {ad : Nat → Nat} {σ : OS} {v : Int32} : (prw y ad σ).set 2 ((ad 60), .inr (5, (prw_f2 y ad σ).set 7 (.int v))) = prw y ad (sI σ 68 v) := rfl
theorem prw_a3 {y : Nat → ClassId} {ad : Nat → Nat} {σ : OS} : (prw y ad σ)[3]? = some (ad 41, .inl (y 3, 14, .inr (.inl (σ.2.2.2 41)))) := rfl
theorem prw_s3 {y : Nat → ClassId} {ad : Nat → Nat} {σ : OS} {g : Nat → Int64} : (prw y ad σ).set 3 (ad 41, .inl (y 3, 14, .inr (.inl g))) = prw y ad (tJ σ 41 g) := rfl
theorem prw_a4 {y : Nat → ClassId} {ad : Nat → Nat} {σ : OS} : (prw y ad σ)[4]? = some (ad 42, .inl (y 2, 700, .inl (σ.2.2.1 42))) := rfl
theorem prw_s4 {y : Nat → ClassId} {ad : Nat → Nat} {σ : OS} {g : Nat → Int32} : (prw y ad σ).set 4 (ad 42, .inl (y 2, 700, .inl g)) = prw y ad (tI σ 42 g) := rfl
theorem prw_a5 {y : Nat → ClassId} {ad : Nat → Nat} {σ : OS} : (prw y ad σ)[5]? = some (ad 43, .inl (y 2, 700, .inl (σ.2.2.1 43))) := rfl
theorem prw_s5 {y : Nat → ClassId} {ad : Nat → Nat} {σ : OS} {g : Nat → Int32} : (prw y ad σ).set 5 (ad 43, .inl (y 2, 700, .inl g)) = prw y ad (tI σ 43 g) := rfl
theorem prw_a6 {y : Nat → ClassId} {ad : Nat → Nat} {σ : OS} : (prw y ad σ)[6]? = some (ad 44, .inl (y 3, 700, .inr (.inl (σ.2.2.2 44)))) := rfl
theorem prw_s6 {y : Nat → ClassId} {ad : Nat → Nat} {σ : OS} {g : Nat → Int64} : (prw y ad σ).set 6 (ad 44, .inl (y 3, 700, .inr (.inl g))) = prw y ad (tJ σ 44 g) := rfl
theorem prw_a7 {y : Nat → ClassId} {ad : Nat → Nat} {σ : OS} : (prw y ad σ)[7]? = some (ad 67, .inl (y 2, 4, .inl (σ.2.2.1 67))) := rfl
theorem prw_s7 {y : Nat → ClassId} {ad : Nat → Nat} {σ : OS} {g : Nat → Int32} : (prw y ad σ).set 7 (ad 67, .inl (y 2, 4, .inl g)) = prw y ad (tI σ 67 g) := rfl
theorem prw_a8 {y : Nat → ClassId} {ad : Nat → Nat} {σ : OS} : (prw y ad σ)[8]? = some (ad 69, .inl (y 3, 24, .inr (.inl (σ.2.2.2 69)))) := rfl
theorem prw_s8 {y : Nat → ClassId} {ad : Nat → Nat} {σ : OS} {g : Nat → Int64} : (prw y ad σ).set 8 (ad 69, .inl (y 3, 24, .inr (.inl g))) = prw y ad (tJ σ 69 g) := rfl
theorem prw_a9 {y : Nat → ClassId} {ad : Nat → Nat} {σ : OS} : (prw y ad σ)[9]? = some (ad 70, .inl (y 2, 24, .inl (σ.2.2.1 70))) := rfl
theorem prw_s9 {y : Nat → ClassId} {ad : Nat → Nat} {σ : OS} {g : Nat → Int32} : (prw y ad σ).set 9 (ad 70, .inl (y 2, 24, .inl g)) = prw y ad (tI σ 70 g) := rfl
theorem prw_a10 {y : Nat → ClassId} {ad : Nat → Nat} {σ : OS} : (prw y ad σ)[10]? = some (ad 71, .inl (y 2, 350, .inl (σ.2.2.1 71))) := rfl
theorem prw_s10 {y : Nat → ClassId} {ad : Nat → Nat} {σ : OS} {g : Nat → Int32} : (prw y ad σ).set 10 (ad 71, .inl (y 2, 350, .inl g)) = prw y ad (tI σ 71 g) := rfl
theorem prw_a11 {y : Nat → ClassId} {ad : Nat → Nat} {σ : OS} : (prw y ad σ)[11]? = some (ad 72, .inl (y 2, 700, .inl (σ.2.2.1 72))) := rfl
theorem prw_s11 {y : Nat → ClassId} {ad : Nat → Nat} {σ : OS} {g : Nat → Int32} : (prw y ad σ).set 11 (ad 72, .inl (y 2, 700, .inl g)) = prw y ad (tI σ 72 g) := rfl
theorem prw_a12 {y : Nat → ClassId} {ad : Nat → Nat} {σ : OS} : (prw y ad σ)[12]? = some (ad 73, .inl (y 2, 700, .inl (σ.2.2.1 73))) := rfl
theorem prw_s12 {y : Nat → ClassId} {ad : Nat → Nat} {σ : OS} {g : Nat → Int32} : (prw y ad σ).set 12 (ad 73, .inl (y 2, 700, .inl g)) = prw y ad (tI σ 73 g) := rfl
theorem dX5_refuse_0 : decode cX5_refuse 0 = .ok (.aload_n 0, 1) := by decide +kernel
theorem dX5_refuse_1 : decode cX5_refuse 1 = .ok (.iload_n 1, 1) := by decide +kernel
theorem dX5_refuse_2 : decode cX5_refuse 2 = .ok (.putfield 22, 3) := by decide +kernel
theorem dX5_refuse_5 : decode cX5_refuse 5 = .ok (.aload_n 0, 1) := by decide +kernel
theorem dX5_refuse_6 : decode cX5_refuse 6 = .ok (.iconst 0, 1) := by decide +kernel
theorem dX5_refuse_7 : decode cX5_refuse 7 = .ok (.putfield 58, 3) := by decide +kernel
theorem dX5_refuse_10 : decode cX5_refuse 10 = .ok (.iconst 0, 1) := by decide +kernel
theorem dX5_refuse_11 : decode cX5_refuse 11 = .ok (.ireturn, 1) := by decide +kernel
theorem dX5_refuseWithin_0 : decode cX5_refuseWithin 0 = .ok (.aload_n 0, 1) := by decide +kernel
theorem dX5_refuseWithin_1 : decode cX5_refuseWithin 1 = .ok (.iload_n 1, 1) := by decide +kernel
theorem dX5_refuseWithin_2 : decode cX5_refuseWithin 2 = .ok (.putfield 22, 3) := by decide +kernel
theorem dX5_refuseWithin_5 : decode cX5_refuseWithin 5 = .ok (.aload_n 0, 1) := by decide +kernel
theorem dX5_refuseWithin_6 : decode cX5_refuseWithin 6 = .ok (.iload_n 2, 1) := by decide +kernel
theorem dX5_refuseWithin_7 : decode cX5_refuseWithin 7 = .ok (.putfield 58, 3) := by decide +kernel
theorem dX5_refuseWithin_10 : decode cX5_refuseWithin 10 = .ok (.iconst 0, 1) := by decide +kernel
theorem dX5_refuseWithin_11 : decode cX5_refuseWithin 11 = .ok (.ireturn, 1) := by decide +kernel
theorem dX5_pass_0 : decode cX5_pass 0 = .ok (.aload_n 0, 1) := by decide +kernel
theorem dX5_pass_1 : decode cX5_pass 1 = .ok (.dup, 1) := by decide +kernel
theorem dX5_pass_2 : decode cX5_pass 2 = .ok (.getfield 38, 3) := by decide +kernel
theorem dX5_pass_5 : decode cX5_pass 5 = .ok (.iconst 1, 1) := by decide +kernel
theorem dX5_pass_6 : decode cX5_pass 6 = .ok (.iadd, 1) := by decide +kernel
theorem dX5_pass_7 : decode cX5_pass 7 = .ok (.putfield 38, 3) := by decide +kernel
theorem dX5_pass_10 : decode cX5_pass 10 = .ok (.aload_n 0, 1) := by decide +kernel
theorem dX5_pass_11 : decode cX5_pass 11 = .ok (.aload_n 0, 1) := by decide +kernel
theorem dX5_pass_12 : decode cX5_pass 12 = .ok (.getfield 12, 3) := by decide +kernel
theorem dX5_pass_15 : decode cX5_pass 15 = .ok (.aload_n 0, 1) := by decide +kernel
theorem dX5_pass_16 : decode cX5_pass 16 = .ok (.getfield 38, 3) := by decide +kernel
theorem dX5_pass_19 : decode cX5_pass 19 = .ok (.invokevirtual 41, 3) := by decide +kernel
theorem dX5_pass_22 : decode cX5_pass 22 = .ok (.putfield 45, 3) := by decide +kernel
theorem dX5_pass_25 : decode cX5_pass 25 = .ok (.return_, 1) := by decide +kernel
theorem dX5_isName_0 : decode cX5_isName 0 = .ok (.aload_n 0, 1) := by decide +kernel
theorem dX5_isName_1 : decode cX5_isName 1 = .ok (.getfield 45, 3) := by decide +kernel
theorem dX5_isName_4 : decode cX5_isName 4 = .ok (.sipush 259, 3) := by decide +kernel
theorem dX5_isName_7 : decode cX5_isName 7 = .ok (.if_icmp .ne 11, 3) := by decide +kernel
theorem dX5_isName_10 : decode cX5_isName 10 = .ok (.aload_n 0, 1) := by decide +kernel
theorem dX5_isName_11 : decode cX5_isName 11 = .ok (.iconst 1, 1) := by decide +kernel
theorem dX5_isName_12 : decode cX5_isName 12 = .ok (.bipush 6, 2) := by decide +kernel
theorem dX5_isName_14 : decode cX5_isName 14 = .ok (.invokevirtual 205, 3) := by decide +kernel
theorem dX5_isName_17 : decode cX5_isName 17 = .ok (.ireturn, 1) := by decide +kernel
theorem dX5_isName_18 : decode cX5_isName 18 = .ok (.aload_n 0, 1) := by decide +kernel
theorem dX5_isName_19 : decode cX5_isName 19 = .ok (.getfield 45, 3) := by decide +kernel
theorem dX5_isName_22 : decode cX5_isName 22 = .ok (.sipush 258, 3) := by decide +kernel
theorem dX5_isName_25 : decode cX5_isName 25 = .ok (.if_icmp .eq 11, 3) := by decide +kernel
theorem dX5_isName_28 : decode cX5_isName 28 = .ok (.aload_n 0, 1) := by decide +kernel
theorem dX5_isName_29 : decode cX5_isName 29 = .ok (.iconst 1, 1) := by decide +kernel
theorem dX5_isName_30 : decode cX5_isName 30 = .ok (.invokevirtual 61, 3) := by decide +kernel
theorem dX5_isName_33 : decode cX5_isName 33 = .ok (.ifCond .eq 7, 3) := by decide +kernel
theorem dX5_isName_36 : decode cX5_isName 36 = .ok (.iconst 1, 1) := by decide +kernel
theorem dX5_isName_37 : decode cX5_isName 37 = .ok (.goto 4, 3) := by decide +kernel
theorem dX5_isName_40 : decode cX5_isName 40 = .ok (.iconst 0, 1) := by decide +kernel
theorem dX5_isName_41 : decode cX5_isName 41 = .ok (.ireturn, 1) := by decide +kernel
theorem dX5_isNumber_0 : decode cX5_isNumber 0 = .ok (.aload_n 0, 1) := by decide +kernel
theorem dX5_isNumber_1 : decode cX5_isNumber 1 = .ok (.getfield 45, 3) := by decide +kernel
theorem dX5_isNumber_4 : decode cX5_isNumber 4 = .ok (.sipush 261, 3) := by decide +kernel
theorem dX5_isNumber_7 : decode cX5_isNumber 7 = .ok (.if_icmp .ne 10, 3) := by decide +kernel
theorem dX5_isNumber_10 : decode cX5_isNumber 10 = .ok (.aload_n 0, 1) := by decide +kernel
theorem dX5_isNumber_11 : decode cX5_isNumber 11 = .ok (.iconst 1, 1) := by decide +kernel
theorem dX5_isNumber_12 : decode cX5_isNumber 12 = .ok (.iconst 4, 1) := by decide +kernel
theorem dX5_isNumber_13 : decode cX5_isNumber 13 = .ok (.invokevirtual 205, 3) := by decide +kernel
theorem dX5_isNumber_16 : decode cX5_isNumber 16 = .ok (.ireturn, 1) := by decide +kernel
theorem dX5_isNumber_17 : decode cX5_isNumber 17 = .ok (.aload_n 0, 1) := by decide +kernel
theorem dX5_isNumber_18 : decode cX5_isNumber 18 = .ok (.getfield 45, 3) := by decide +kernel
theorem dX5_isNumber_21 : decode cX5_isNumber 21 = .ok (.sipush 260, 3) := by decide +kernel
theorem dX5_isNumber_24 : decode cX5_isNumber 24 = .ok (.if_icmp .eq 11, 3) := by decide +kernel
theorem dX5_isNumber_27 : decode cX5_isNumber 27 = .ok (.aload_n 0, 1) := by decide +kernel
theorem dX5_isNumber_28 : decode cX5_isNumber 28 = .ok (.iconst 1, 1) := by decide +kernel
theorem dX5_isNumber_29 : decode cX5_isNumber 29 = .ok (.invokevirtual 61, 3) := by decide +kernel
theorem dX5_isNumber_32 : decode cX5_isNumber 32 = .ok (.ifCond .eq 7, 3) := by decide +kernel
theorem dX5_isNumber_35 : decode cX5_isNumber 35 = .ok (.iconst 1, 1) := by decide +kernel
theorem dX5_isNumber_36 : decode cX5_isNumber 36 = .ok (.goto 4, 3) := by decide +kernel
theorem dX5_isNumber_39 : decode cX5_isNumber 39 = .ok (.iconst 0, 1) := by decide +kernel
theorem dX5_isNumber_40 : decode cX5_isNumber 40 = .ok (.ireturn, 1) := by decide +kernel
theorem dX5_openWith_0 : decode cX5_openWith 0 = .ok (.aload_n 0, 1) := by decide +kernel
theorem dX5_openWith_1 : decode cX5_openWith 1 = .ok (.getfield 45, 3) := by decide +kernel
theorem dX5_openWith_4 : decode cX5_openWith 4 = .ok (.iload_n 1, 1) := by decide +kernel
theorem dX5_openWith_5 : decode cX5_openWith 5 = .ok (.if_icmp .eq 9, 3) := by decide +kernel
theorem dX5_openWith_8 : decode cX5_openWith 8 = .ok (.aload_n 0, 1) := by decide +kernel
theorem dX5_openWith_9 : decode cX5_openWith 9 = .ok (.iconst 1, 1) := by decide +kernel
theorem dX5_openWith_10 : decode cX5_openWith 10 = .ok (.invokevirtual 61, 3) := by decide +kernel
theorem dX5_openWith_13 : decode cX5_openWith 13 = .ok (.ireturn, 1) := by decide +kernel
theorem dX5_openWith_14 : decode cX5_openWith 14 = .ok (.aload_n 0, 1) := by decide +kernel
theorem dX5_openWith_15 : decode cX5_openWith 15 = .ok (.getfield 48, 3) := by decide +kernel
theorem dX5_openWith_18 : decode cX5_openWith 18 = .ok (.bipush 8, 2) := by decide +kernel
theorem dX5_openWith_20 : decode cX5_openWith 20 = .ok (.if_icmp .lt 9, 3) := by decide +kernel
theorem dX5_openWith_23 : decode cX5_openWith 23 = .ok (.aload_n 0, 1) := by decide +kernel
theorem dX5_openWith_24 : decode cX5_openWith 24 = .ok (.iconst 4, 1) := by decide +kernel
theorem dX5_openWith_25 : decode cX5_openWith 25 = .ok (.invokevirtual 61, 3) := by decide +kernel
theorem dX5_openWith_28 : decode cX5_openWith 28 = .ok (.ireturn, 1) := by decide +kernel
theorem dX5_openWith_29 : decode cX5_openWith 29 = .ok (.aload_n 0, 1) := by decide +kernel
theorem dX5_openWith_30 : decode cX5_openWith 30 = .ok (.dup, 1) := by decide +kernel
theorem dX5_openWith_31 : decode cX5_openWith 31 = .ok (.getfield 48, 3) := by decide +kernel
theorem dX5_openWith_34 : decode cX5_openWith 34 = .ok (.iconst 1, 1) := by decide +kernel
theorem dX5_openWith_35 : decode cX5_openWith 35 = .ok (.iadd, 1) := by decide +kernel
theorem dX5_openWith_36 : decode cX5_openWith 36 = .ok (.putfield 48, 3) := by decide +kernel
theorem dX5_openWith_39 : decode cX5_openWith 39 = .ok (.aload_n 0, 1) := by decide +kernel
theorem dX5_openWith_40 : decode cX5_openWith 40 = .ok (.invokevirtual 86, 3) := by decide +kernel
theorem dX5_openWith_43 : decode cX5_openWith 43 = .ok (.iconst 1, 1) := by decide +kernel
theorem dX5_openWith_44 : decode cX5_openWith 44 = .ok (.ireturn, 1) := by decide +kernel
theorem dX5_closeWith_0 : decode cX5_closeWith 0 = .ok (.aload_n 0, 1) := by decide +kernel
theorem dX5_closeWith_1 : decode cX5_closeWith 1 = .ok (.getfield 45, 3) := by decide +kernel
theorem dX5_closeWith_4 : decode cX5_closeWith 4 = .ok (.iload_n 1, 1) := by decide +kernel
theorem dX5_closeWith_5 : decode cX5_closeWith 5 = .ok (.if_icmp .eq 9, 3) := by decide +kernel
theorem dX5_closeWith_8 : decode cX5_closeWith 8 = .ok (.aload_n 0, 1) := by decide +kernel
theorem dX5_closeWith_9 : decode cX5_closeWith 9 = .ok (.iconst 1, 1) := by decide +kernel
theorem dX5_closeWith_10 : decode cX5_closeWith 10 = .ok (.invokevirtual 61, 3) := by decide +kernel
theorem dX5_closeWith_13 : decode cX5_closeWith 13 = .ok (.ireturn, 1) := by decide +kernel
theorem dX5_closeWith_14 : decode cX5_closeWith 14 = .ok (.aload_n 0, 1) := by decide +kernel
theorem dX5_closeWith_15 : decode cX5_closeWith 15 = .ok (.dup, 1) := by decide +kernel
theorem dX5_closeWith_16 : decode cX5_closeWith 16 = .ok (.getfield 48, 3) := by decide +kernel
theorem dX5_closeWith_19 : decode cX5_closeWith 19 = .ok (.iconst 1, 1) := by decide +kernel
theorem dX5_closeWith_20 : decode cX5_closeWith 20 = .ok (.isub, 1) := by decide +kernel
theorem dX5_closeWith_21 : decode cX5_closeWith 21 = .ok (.putfield 48, 3) := by decide +kernel
theorem dX5_closeWith_24 : decode cX5_closeWith 24 = .ok (.aload_n 0, 1) := by decide +kernel
theorem dX5_closeWith_25 : decode cX5_closeWith 25 = .ok (.invokevirtual 86, 3) := by decide +kernel
theorem dX5_closeWith_28 : decode cX5_closeWith 28 = .ok (.iconst 1, 1) := by decide +kernel
theorem dX5_closeWith_29 : decode cX5_closeWith 29 = .ok (.ireturn, 1) := by decide +kernel
theorem dX5_expect_0 : decode cX5_expect 0 = .ok (.aload_n 0, 1) := by decide +kernel
theorem dX5_expect_1 : decode cX5_expect 1 = .ok (.getfield 45, 3) := by decide +kernel
theorem dX5_expect_4 : decode cX5_expect 4 = .ok (.iload_n 1, 1) := by decide +kernel
theorem dX5_expect_5 : decode cX5_expect 5 = .ok (.if_icmp .eq 9, 3) := by decide +kernel
theorem dX5_expect_8 : decode cX5_expect 8 = .ok (.aload_n 0, 1) := by decide +kernel
theorem dX5_expect_9 : decode cX5_expect 9 = .ok (.iconst 1, 1) := by decide +kernel
theorem dX5_expect_10 : decode cX5_expect 10 = .ok (.invokevirtual 61, 3) := by decide +kernel
theorem dX5_expect_13 : decode cX5_expect 13 = .ok (.ireturn, 1) := by decide +kernel
theorem dX5_expect_14 : decode cX5_expect 14 = .ok (.aload_n 0, 1) := by decide +kernel
theorem dX5_expect_15 : decode cX5_expect 15 = .ok (.invokevirtual 86, 3) := by decide +kernel
theorem dX5_expect_18 : decode cX5_expect 18 = .ok (.iconst 1, 1) := by decide +kernel
theorem dX5_expect_19 : decode cX5_expect 19 = .ok (.ireturn, 1) := by decide +kernel
theorem dX5_kindOfSign_0 : decode cX5_kindOfSign 0 = .ok (.aload_n 0, 1) := by decide +kernel
theorem dX5_kindOfSign_1 : decode cX5_kindOfSign 1 = .ok (.getfield 45, 3) := by decide +kernel
theorem dX5_kindOfSign_4 : decode cX5_kindOfSign 4 = .ok (.tableswitch 37 60 62 #[28, 34, 31], 28) := by decide +kernel
theorem dX5_kindOfSign_32 : decode cX5_kindOfSign 32 = .ok (.bipush 13, 2) := by decide +kernel
theorem dX5_kindOfSign_34 : decode cX5_kindOfSign 34 = .ok (.ireturn, 1) := by decide +kernel
theorem dX5_kindOfSign_35 : decode cX5_kindOfSign 35 = .ok (.bipush 14, 2) := by decide +kernel
theorem dX5_kindOfSign_37 : decode cX5_kindOfSign 37 = .ok (.ireturn, 1) := by decide +kernel
theorem dX5_kindOfSign_38 : decode cX5_kindOfSign 38 = .ok (.bipush 15, 2) := by decide +kernel
theorem dX5_kindOfSign_40 : decode cX5_kindOfSign 40 = .ok (.ireturn, 1) := by decide +kernel
theorem dX5_kindOfSign_41 : decode cX5_kindOfSign 41 = .ok (.iconst (-1), 1) := by decide +kernel
theorem dX5_kindOfSign_42 : decode cX5_kindOfSign 42 = .ok (.ireturn, 1) := by decide +kernel
theorem dX5_isFull_0 : decode cX5_isFull 0 = .ok (.iload_n 1, 1) := by decide +kernel
theorem dX5_isFull_1 : decode cX5_isFull 1 = .ok (.lookupswitch 62 #[(262, 27), (263, 45)], 27) := by decide +kernel
theorem dX5_isFull_28 : decode cX5_isFull 28 = .ok (.aload_n 0, 1) := by decide +kernel
theorem dX5_isFull_29 : decode cX5_isFull 29 = .ok (.getfield 34, 3) := by decide +kernel
theorem dX5_isFull_32 : decode cX5_isFull 32 = .ok (.getfield 104, 3) := by decide +kernel
theorem dX5_isFull_35 : decode cX5_isFull 35 = .ok (.bipush 8, 2) := by decide +kernel
theorem dX5_isFull_37 : decode cX5_isFull 37 = .ok (.if_icmp .lt 7, 3) := by decide +kernel
theorem dX5_isFull_40 : decode cX5_isFull 40 = .ok (.iconst 1, 1) := by decide +kernel
theorem dX5_isFull_41 : decode cX5_isFull 41 = .ok (.goto 4, 3) := by decide +kernel
theorem dX5_isFull_44 : decode cX5_isFull 44 = .ok (.iconst 0, 1) := by decide +kernel
theorem dX5_isFull_45 : decode cX5_isFull 45 = .ok (.ireturn, 1) := by decide +kernel
theorem dX5_isFull_46 : decode cX5_isFull 46 = .ok (.aload_n 0, 1) := by decide +kernel
theorem dX5_isFull_47 : decode cX5_isFull 47 = .ok (.getfield 34, 3) := by decide +kernel
theorem dX5_isFull_50 : decode cX5_isFull 50 = .ok (.getfield 107, 3) := by decide +kernel
theorem dX5_isFull_53 : decode cX5_isFull 53 = .ok (.iconst 4, 1) := by decide +kernel
theorem dX5_isFull_54 : decode cX5_isFull 54 = .ok (.if_icmp .lt 7, 3) := by decide +kernel
theorem dX5_isFull_57 : decode cX5_isFull 57 = .ok (.iconst 1, 1) := by decide +kernel
theorem dX5_isFull_58 : decode cX5_isFull 58 = .ok (.goto 4, 3) := by decide +kernel
theorem dX5_isFull_61 : decode cX5_isFull 61 = .ok (.iconst 0, 1) := by decide +kernel
theorem dX5_isFull_62 : decode cX5_isFull 62 = .ok (.ireturn, 1) := by decide +kernel
theorem dX5_isFull_63 : decode cX5_isFull 63 = .ok (.aload_n 0, 1) := by decide +kernel
theorem dX5_isFull_64 : decode cX5_isFull 64 = .ok (.getfield 34, 3) := by decide +kernel
theorem dX5_isFull_67 : decode cX5_isFull 67 = .ok (.getfield 110, 3) := by decide +kernel
theorem dX5_isFull_70 : decode cX5_isFull 70 = .ok (.bipush 12, 2) := by decide +kernel
theorem dX5_isFull_72 : decode cX5_isFull 72 = .ok (.if_icmp .lt 7, 3) := by decide +kernel
theorem dX5_isFull_75 : decode cX5_isFull 75 = .ok (.iconst 1, 1) := by decide +kernel
theorem dX5_isFull_76 : decode cX5_isFull 76 = .ok (.goto 4, 3) := by decide +kernel
theorem dX5_isFull_79 : decode cX5_isFull 79 = .ok (.iconst 0, 1) := by decide +kernel
theorem dX5_isFull_80 : decode cX5_isFull 80 = .ok (.ireturn, 1) := by decide +kernel
theorem dX5_beginStatement_0 : decode cX5_beginStatement 0 = .ok (.aload_n 0, 1) := by decide +kernel
theorem dX5_beginStatement_1 : decode cX5_beginStatement 1 = .ok (.getfield 34, 3) := by decide +kernel
theorem dX5_beginStatement_4 : decode cX5_beginStatement 4 = .ok (.dup, 1) := by decide +kernel
theorem dX5_beginStatement_5 : decode cX5_beginStatement 5 = .ok (.getfield 65, 3) := by decide +kernel
theorem dX5_beginStatement_8 : decode cX5_beginStatement 8 = .ok (.iconst 1, 1) := by decide +kernel
theorem dX5_beginStatement_9 : decode cX5_beginStatement 9 = .ok (.iadd, 1) := by decide +kernel
theorem dX5_beginStatement_10 : decode cX5_beginStatement 10 = .ok (.putfield 65, 3) := by decide +kernel
theorem dX5_beginStatement_13 : decode cX5_beginStatement 13 = .ok (.aload_n 0, 1) := by decide +kernel
theorem dX5_beginStatement_14 : decode cX5_beginStatement 14 = .ok (.invokevirtual 86, 3) := by decide +kernel
theorem dX5_beginStatement_17 : decode cX5_beginStatement 17 = .ok (.return_, 1) := by decide +kernel
theorem dX5_newName_0 : decode cX5_newName 0 = .ok (.aload_n 0, 1) := by decide +kernel
theorem dX5_newName_1 : decode cX5_newName 1 = .ok (.invokevirtual 113, 3) := by decide +kernel
theorem dX5_newName_4 : decode cX5_newName 4 = .ok (.ifCond .ne 5, 3) := by decide +kernel
theorem dX5_newName_7 : decode cX5_newName 7 = .ok (.iconst 0, 1) := by decide +kernel
theorem dX5_newName_8 : decode cX5_newName 8 = .ok (.ireturn, 1) := by decide +kernel
theorem dX5_newName_9 : decode cX5_newName 9 = .ok (.aload_n 0, 1) := by decide +kernel
theorem dX5_newName_10 : decode cX5_newName 10 = .ok (.getfield 12, 3) := by decide +kernel
theorem dX5_newName_13 : decode cX5_newName 13 = .ok (.aload_n 0, 1) := by decide +kernel
theorem dX5_newName_14 : decode cX5_newName 14 = .ok (.getfield 38, 3) := by decide +kernel
theorem dX5_newName_17 : decode cX5_newName 17 = .ok (.invokevirtual 116, 3) := by decide +kernel
theorem dX5_newName_20 : decode cX5_newName 20 = .ok (.lstore_n 2, 1) := by decide +kernel
theorem dX5_newName_21 : decode cX5_newName 21 = .ok (.aload_n 0, 1) := by decide +kernel
theorem dX5_newName_22 : decode cX5_newName 22 = .ok (.getfield 34, 3) := by decide +kernel
theorem dX5_newName_25 : decode cX5_newName 25 = .ok (.lload_n 2, 1) := by decide +kernel
theorem dX5_newName_26 : decode cX5_newName 26 = .ok (.invokevirtual 120, 3) := by decide +kernel
theorem dX5_newName_29 : decode cX5_newName 29 = .ok (.iconst (-1), 1) := by decide +kernel
theorem dX5_newName_30 : decode cX5_newName 30 = .ok (.if_icmp .eq 9, 3) := by decide +kernel
theorem dX5_newName_33 : decode cX5_newName 33 = .ok (.aload_n 0, 1) := by decide +kernel
theorem dX5_newName_34 : decode cX5_newName 34 = .ok (.iconst 3, 1) := by decide +kernel
theorem dX5_newName_35 : decode cX5_newName 35 = .ok (.invokevirtual 61, 3) := by decide +kernel
theorem dX5_newName_38 : decode cX5_newName 38 = .ok (.ireturn, 1) := by decide +kernel
theorem dX5_newName_39 : decode cX5_newName 39 = .ok (.aload_n 0, 1) := by decide +kernel
theorem dX5_newName_40 : decode cX5_newName 40 = .ok (.getfield 34, 3) := by decide +kernel
theorem dX5_newName_43 : decode cX5_newName 43 = .ok (.iload_n 1, 1) := by decide +kernel
theorem dX5_newName_44 : decode cX5_newName 44 = .ok (.lload_n 2, 1) := by decide +kernel
theorem dX5_newName_45 : decode cX5_newName 45 = .ok (.invokevirtual 124, 3) := by decide +kernel
theorem dX5_newName_48 : decode cX5_newName 48 = .ok (.aload_n 0, 1) := by decide +kernel
theorem dX5_newName_49 : decode cX5_newName 49 = .ok (.invokevirtual 86, 3) := by decide +kernel
theorem dX5_newName_52 : decode cX5_newName 52 = .ok (.iconst 1, 1) := by decide +kernel
theorem dX5_newName_53 : decode cX5_newName 53 = .ok (.ireturn, 1) := by decide +kernel
theorem dX5_placesOfRow_0 : decode cX5_placesOfRow 0 = .ok (.aload_n 0, 1) := by decide +kernel
theorem dX5_placesOfRow_1 : decode cX5_placesOfRow 1 = .ok (.invokevirtual 128, 3) := by decide +kernel
theorem dX5_placesOfRow_4 : decode cX5_placesOfRow 4 = .ok (.ifCond .ne 5, 3) := by decide +kernel
theorem dX5_placesOfRow_7 : decode cX5_placesOfRow 7 = .ok (.iconst 0, 1) := by decide +kernel
theorem dX5_placesOfRow_8 : decode cX5_placesOfRow 8 = .ok (.ireturn, 1) := by decide +kernel
theorem dX5_placesOfRow_9 : decode cX5_placesOfRow 9 = .ok (.aload_n 0, 1) := by decide +kernel
theorem dX5_placesOfRow_10 : decode cX5_placesOfRow 10 = .ok (.getfield 12, 3) := by decide +kernel
theorem dX5_placesOfRow_13 : decode cX5_placesOfRow 13 = .ok (.aload_n 0, 1) := by decide +kernel
theorem dX5_placesOfRow_14 : decode cX5_placesOfRow 14 = .ok (.getfield 38, 3) := by decide +kernel
theorem dX5_placesOfRow_17 : decode cX5_placesOfRow 17 = .ok (.invokevirtual 116, 3) := by decide +kernel
theorem dX5_placesOfRow_20 : decode cX5_placesOfRow 20 = .ok (.l2i, 1) := by decide +kernel
theorem dX5_placesOfRow_21 : decode cX5_placesOfRow 21 = .ok (.istore_n 1, 1) := by decide +kernel
theorem dX5_placesOfRow_22 : decode cX5_placesOfRow 22 = .ok (.iload_n 1, 1) := by decide +kernel
theorem dX5_placesOfRow_23 : decode cX5_placesOfRow 23 = .ok (.iconst 1, 1) := by decide +kernel
theorem dX5_placesOfRow_24 : decode cX5_placesOfRow 24 = .ok (.if_icmp .lt 9, 3) := by decide +kernel
theorem dX5_placesOfRow_27 : decode cX5_placesOfRow 27 = .ok (.iload_n 1, 1) := by decide +kernel
theorem dX5_placesOfRow_28 : decode cX5_placesOfRow 28 = .ok (.bipush 16, 2) := by decide +kernel
theorem dX5_placesOfRow_30 : decode cX5_placesOfRow 30 = .ok (.if_icmp .le 9, 3) := by decide +kernel
theorem dX5_placesOfRow_33 : decode cX5_placesOfRow 33 = .ok (.aload_n 0, 1) := by decide +kernel
theorem dX5_placesOfRow_34 : decode cX5_placesOfRow 34 = .ok (.iconst 2, 1) := by decide +kernel
theorem dX5_placesOfRow_35 : decode cX5_placesOfRow 35 = .ok (.invokevirtual 61, 3) := by decide +kernel
theorem dX5_placesOfRow_38 : decode cX5_placesOfRow 38 = .ok (.ireturn, 1) := by decide +kernel
theorem dX5_placesOfRow_39 : decode cX5_placesOfRow 39 = .ok (.aload_n 0, 1) := by decide +kernel
theorem dX5_placesOfRow_40 : decode cX5_placesOfRow 40 = .ok (.getfield 34, 3) := by decide +kernel
theorem dX5_placesOfRow_43 : decode cX5_placesOfRow 43 = .ok (.iload_n 1, 1) := by decide +kernel
theorem dX5_placesOfRow_44 : decode cX5_placesOfRow 44 = .ok (.invokevirtual 131, 3) := by decide +kernel
theorem dX5_placesOfRow_47 : decode cX5_placesOfRow 47 = .ok (.aload_n 0, 1) := by decide +kernel
theorem dX5_placesOfRow_48 : decode cX5_placesOfRow 48 = .ok (.invokevirtual 86, 3) := by decide +kernel
theorem dX5_placesOfRow_51 : decode cX5_placesOfRow 51 = .ok (.iconst 1, 1) := by decide +kernel
theorem dX5_placesOfRow_52 : decode cX5_placesOfRow 52 = .ok (.ireturn, 1) := by decide +kernel
theorem dX5_knownName_0 : decode cX5_knownName 0 = .ok (.aload_n 0, 1) := by decide +kernel
theorem dX5_knownName_1 : decode cX5_knownName 1 = .ok (.invokevirtual 113, 3) := by decide +kernel
theorem dX5_knownName_4 : decode cX5_knownName 4 = .ok (.ifCond .ne 5, 3) := by decide +kernel
theorem dX5_knownName_7 : decode cX5_knownName 7 = .ok (.iconst (-1), 1) := by decide +kernel
theorem dX5_knownName_8 : decode cX5_knownName 8 = .ok (.ireturn, 1) := by decide +kernel
theorem dX5_knownName_9 : decode cX5_knownName 9 = .ok (.aload_n 0, 1) := by decide +kernel
theorem dX5_knownName_10 : decode cX5_knownName 10 = .ok (.getfield 34, 3) := by decide +kernel
theorem dX5_knownName_13 : decode cX5_knownName 13 = .ok (.aload_n 0, 1) := by decide +kernel
theorem dX5_knownName_14 : decode cX5_knownName 14 = .ok (.getfield 12, 3) := by decide +kernel
theorem dX5_knownName_17 : decode cX5_knownName 17 = .ok (.aload_n 0, 1) := by decide +kernel
theorem dX5_knownName_18 : decode cX5_knownName 18 = .ok (.getfield 38, 3) := by decide +kernel
theorem dX5_knownName_21 : decode cX5_knownName 21 = .ok (.invokevirtual 116, 3) := by decide +kernel
theorem dX5_knownName_24 : decode cX5_knownName 24 = .ok (.invokevirtual 120, 3) := by decide +kernel
theorem dX5_knownName_27 : decode cX5_knownName 27 = .ok (.istore_n 1, 1) := by decide +kernel
theorem dX5_knownName_28 : decode cX5_knownName 28 = .ok (.iload_n 1, 1) := by decide +kernel
theorem dX5_knownName_29 : decode cX5_knownName 29 = .ok (.iconst (-1), 1) := by decide +kernel
theorem dX5_knownName_30 : decode cX5_knownName 30 = .ok (.if_icmp .ne 12, 3) := by decide +kernel
theorem dX5_knownName_33 : decode cX5_knownName 33 = .ok (.aload_n 0, 1) := by decide +kernel
theorem dX5_knownName_34 : decode cX5_knownName 34 = .ok (.iconst 3, 1) := by decide +kernel
theorem dX5_knownName_35 : decode cX5_knownName 35 = .ok (.invokevirtual 61, 3) := by decide +kernel
theorem dX5_knownName_38 : decode cX5_knownName 38 = .ok (.pop, 1) := by decide +kernel
theorem dX5_knownName_39 : decode cX5_knownName 39 = .ok (.goto 7, 3) := by decide +kernel
theorem dX5_knownName_42 : decode cX5_knownName 42 = .ok (.aload_n 0, 1) := by decide +kernel
theorem dX5_knownName_43 : decode cX5_knownName 43 = .ok (.invokevirtual 86, 3) := by decide +kernel
theorem dX5_knownName_46 : decode cX5_knownName 46 = .ok (.iload_n 1, 1) := by decide +kernel
theorem dX5_knownName_47 : decode cX5_knownName 47 = .ok (.ireturn, 1) := by decide +kernel
theorem dX5_written_0 : decode cX5_written 0 = .ok (.aload_n 0, 1) := by decide +kernel
theorem dX5_written_1 : decode cX5_written 1 = .ok (.invokevirtual 128, 3) := by decide +kernel
theorem dX5_written_4 : decode cX5_written 4 = .ok (.ifCond .ne 5, 3) := by decide +kernel
theorem dX5_written_7 : decode cX5_written 7 = .ok (.iconst 0, 1) := by decide +kernel
theorem dX5_written_8 : decode cX5_written 8 = .ok (.ireturn, 1) := by decide +kernel
theorem dX5_written_9 : decode cX5_written 9 = .ok (.aload_n 0, 1) := by decide +kernel
theorem dX5_written_10 : decode cX5_written 10 = .ok (.getfield 34, 3) := by decide +kernel
theorem dX5_written_13 : decode cX5_written 13 = .ok (.aload_n 0, 1) := by decide +kernel
theorem dX5_written_14 : decode cX5_written 14 = .ok (.getfield 12, 3) := by decide +kernel
theorem dX5_written_17 : decode cX5_written 17 = .ok (.aload_n 0, 1) := by decide +kernel
theorem dX5_written_18 : decode cX5_written 18 = .ok (.getfield 38, 3) := by decide +kernel
theorem dX5_written_21 : decode cX5_written 21 = .ok (.invokevirtual 116, 3) := by decide +kernel
theorem dX5_written_24 : decode cX5_written 24 = .ok (.l2i, 1) := by decide +kernel
theorem dX5_written_25 : decode cX5_written 25 = .ok (.invokevirtual 202, 3) := by decide +kernel
theorem dX5_written_28 : decode cX5_written 28 = .ok (.aload_n 0, 1) := by decide +kernel
theorem dX5_written_29 : decode cX5_written 29 = .ok (.invokevirtual 86, 3) := by decide +kernel
theorem dX5_written_32 : decode cX5_written 32 = .ok (.iconst 1, 1) := by decide +kernel
theorem dX5_written_33 : decode cX5_written 33 = .ok (.ireturn, 1) := by decide +kernel
theorem dX5_declaration_0 : decode cX5_declaration 0 = .ok (.aload_n 0, 1) := by decide +kernel
theorem dX5_declaration_1 : decode cX5_declaration 1 = .ok (.getfield 45, 3) := by decide +kernel
theorem dX5_declaration_4 : decode cX5_declaration 4 = .ok (.istore_n 1, 1) := by decide +kernel
theorem dX5_declaration_5 : decode cX5_declaration 5 = .ok (.aload_n 0, 1) := by decide +kernel
theorem dX5_declaration_6 : decode cX5_declaration 6 = .ok (.iload_n 1, 1) := by decide +kernel
theorem dX5_declaration_7 : decode cX5_declaration 7 = .ok (.invokevirtual 89, 3) := by decide +kernel
theorem dX5_declaration_10 : decode cX5_declaration 10 = .ok (.ifCond .eq 9, 3) := by decide +kernel
theorem dX5_declaration_13 : decode cX5_declaration 13 = .ok (.aload_n 0, 1) := by decide +kernel
theorem dX5_declaration_14 : decode cX5_declaration 14 = .ok (.iconst 5, 1) := by decide +kernel
theorem dX5_declaration_15 : decode cX5_declaration 15 = .ok (.invokevirtual 61, 3) := by decide +kernel
theorem dX5_declaration_18 : decode cX5_declaration 18 = .ok (.ireturn, 1) := by decide +kernel
theorem dX5_declaration_19 : decode cX5_declaration 19 = .ok (.aload_n 0, 1) := by decide +kernel
theorem dX5_declaration_20 : decode cX5_declaration 20 = .ok (.invokevirtual 92, 3) := by decide +kernel
theorem dX5_declaration_23 : decode cX5_declaration 23 = .ok (.aload_n 0, 1) := by decide +kernel
theorem dX5_declaration_24 : decode cX5_declaration 24 = .ok (.iload_n 1, 1) := by decide +kernel
theorem dX5_declaration_25 : decode cX5_declaration 25 = .ok (.invokevirtual 95, 3) := by decide +kernel
theorem dX5_declaration_28 : decode cX5_declaration 28 = .ok (.ifCond .ne 5, 3) := by decide +kernel
theorem dX5_declaration_31 : decode cX5_declaration 31 = .ok (.iconst 0, 1) := by decide +kernel
theorem dX5_declaration_32 : decode cX5_declaration 32 = .ok (.ireturn, 1) := by decide +kernel
theorem dX5_declaration_33 : decode cX5_declaration 33 = .ok (.iload_n 1, 1) := by decide +kernel
theorem dX5_declaration_34 : decode cX5_declaration 34 = .ok (.sipush 263, 3) := by decide +kernel
theorem dX5_declaration_37 : decode cX5_declaration 37 = .ok (.if_icmp .ne 30, 3) := by decide +kernel
theorem dX5_declaration_40 : decode cX5_declaration 40 = .ok (.aload_n 0, 1) := by decide +kernel
theorem dX5_declaration_41 : decode cX5_declaration 41 = .ok (.bipush 91, 2) := by decide +kernel
theorem dX5_declaration_43 : decode cX5_declaration 43 = .ok (.invokevirtual 98, 3) := by decide +kernel
theorem dX5_declaration_46 : decode cX5_declaration 46 = .ok (.ifCond .eq 19, 3) := by decide +kernel
theorem dX5_declaration_49 : decode cX5_declaration 49 = .ok (.aload_n 0, 1) := by decide +kernel
theorem dX5_declaration_50 : decode cX5_declaration 50 = .ok (.invokevirtual 101, 3) := by decide +kernel
theorem dX5_declaration_53 : decode cX5_declaration 53 = .ok (.ifCond .eq 12, 3) := by decide +kernel
theorem dX5_declaration_56 : decode cX5_declaration 56 = .ok (.aload_n 0, 1) := by decide +kernel
theorem dX5_declaration_57 : decode cX5_declaration 57 = .ok (.bipush 93, 2) := by decide +kernel
theorem dX5_declaration_59 : decode cX5_declaration 59 = .ok (.invokevirtual 98, 3) := by decide +kernel
theorem dX5_declaration_62 : decode cX5_declaration 62 = .ok (.ifCond .ne 5, 3) := by decide +kernel
theorem dX5_declaration_65 : decode cX5_declaration 65 = .ok (.iconst 0, 1) := by decide +kernel
theorem dX5_declaration_66 : decode cX5_declaration 66 = .ok (.ireturn, 1) := by decide +kernel
theorem dX5_declaration_67 : decode cX5_declaration 67 = .ok (.aload_n 0, 1) := by decide +kernel
theorem dX5_declaration_68 : decode cX5_declaration 68 = .ok (.bipush 59, 2) := by decide +kernel
theorem dX5_declaration_70 : decode cX5_declaration 70 = .ok (.invokevirtual 98, 3) := by decide +kernel
theorem dX5_declaration_73 : decode cX5_declaration 73 = .ok (.ireturn, 1) := by decide +kernel
def v_o1_kindAt : List Cond := .code yX10_kindAt cX10_kindAt 2 (some .int) :: ([.fieldLink RX10 41 "SlopeRunner$Tokens" "count" "I", .fieldLink RX10 15 "SlopeRunner$Tokens" "kind" "[I"] ++ wsX100)
set_option maxHeartbeats 4000000 in
set_option maxRecDepth 100000 in
theorem o1_kindAt (l : Launch) (D : va_G) (y : Nat → ClassId) (sz : Nat) (ad : Nat → Nat) (σ : OS) (q : Int32) (hct0 : 0 ≤ (σ.1 45).toInt) (hct1 : (σ.1 45).toInt ≤ 700) : Met l yX10_kindAt v_o1_kindAt ({ frames := 0, cells := 0, slots := 0, locals := 0 } : Room) (va_Pc [.ref (ad 40), .int q] (xPre D (xT y) (tow y ad σ) sz)) (va_Qi (fun (r : Int32) (_ : Unit) => True) (fun (u : Unit) => xB D (xT y) (va_A (tow y ad σ) sz) (tow y ad σ)) (va_A (tow y ad σ) sz)) 0 0 (va_A (tow y ad σ) sz) := by
  refine x_meti (cc := cX10_kindAt) (maxL := 2) (by decide) rfl (Nat.le_of_ble_eq_true rfl) ?_
  intro p e s m below meth c A H locs Q hx hb hml hown hts hr hlocks hmn hA hP hK hD hS ls hl hQ
  have hl : lv_has ls 2 [(0, .ref (ad 40)), (1, .int q)] := hl
  have kk_0 : (0 : Int32).toInt = 0 := rfl
  have kk_256 : (256 : Int32).toInt = 256 := rfl
  have fl41 := hts (.fieldLink RX10 41 "SlopeRunner$Tokens" "count" "I") (List.mem_of_getElem? (i := 1) rfl)
  have inX10 : ∀ w ∈ wsX100, w ∈ v_o1_kindAt := (fun w h => List.mem_cons_of_mem _ (List.mem_append_right _ h))
  have fl15 := hts (.fieldLink RX10 15 "SlopeRunner$Tokens" "kind" "[I") (List.mem_of_getElem? (i := 2) rfl)
  refine lv_iload_n hx hb dX10_kindAt_0 rfl (lv_at hl 1 rfl) ?_
  refine lv_if_lt (tgt := 21) hx hb dX10_kindAt_1 (by decide) (fun c_1 => ?_) (fun c_1 => ?_)
  · have kc_1 : q.toInt < 0 := by have h9 := c_1; simp only [ge_iff_le, gt_iff_lt, x_lt, x_le, x_eq, ne_eq, Int32.not_lt, Int32.not_le] at h9; simp only [Int32.reduceToInt] at h9; omega
    refine lv_sipush (v := 256) hx hb dX10_kindAt_21 (by decide) ?_
    exact x_iretW (v := 256) (u := ()) hx hb hr hQ trivial hP hD hK hS dX10_kindAt_24 hlocks
  · have kc_1 : q.toInt ≥ 0 := by have h9 := c_1; simp only [ge_iff_le, gt_iff_lt, x_lt, x_le, x_eq, ne_eq, Int32.not_lt, Int32.not_le] at h9; simp only [Int32.reduceToInt] at h9; omega
    refine lv_iload_n hx hb dX10_kindAt_4 rfl (lv_at hl 1 rfl) ?_
    refine lv_aload_n hx hb dX10_kindAt_5 rfl (lv_at hl 0 rfl) ?_
    refine va_get (D := D) (ci := 9) (v := .int (σ.1 45)) (C := RX10) (T := TX10) (N := 6) hx hb hts inX10 hown hK hP 0 tow_o0 rfl 4 (by decide) fl41 (fun _ h9 => h9) rfl dX10_kindAt_6 ?_
    refine lv_icmp_ge (tgt := 21) hx hb dX10_kindAt_9 (by decide) (fun c_2 => ?_) (fun c_2 => ?_)
    · have kc_2 : q.toInt ≥ (σ.1 45).toInt := by have h9 := c_2; simp only [ge_iff_le, gt_iff_lt, x_lt, x_le, x_eq, ne_eq, Int32.not_lt, Int32.not_le] at h9; omega
      refine lv_sipush (v := 256) hx hb dX10_kindAt_21 (by decide) ?_
      exact x_iretW (v := 256) (u := ()) hx hb hr hQ trivial hP hD hK hS dX10_kindAt_24 hlocks
    · have kc_2 : q.toInt < (σ.1 45).toInt := by have h9 := c_2; simp only [ge_iff_le, gt_iff_lt, x_lt, x_le, x_eq, ne_eq, Int32.not_lt, Int32.not_le] at h9; omega
      refine lv_aload_n hx hb dX10_kindAt_12 rfl (lv_at hl 0 rfl) ?_
      refine va_get (D := D) (ci := 9) (v := .ref (ad 42)) (C := RX10) (T := TX10) (N := 6) hx hb hts inX10 hown hK hP 0 tow_o0 rfl 1 (by decide) fl15 (fun _ h9 => h9) rfl dX10_kindAt_13 ?_
      refine lv_iload_n hx hb dX10_kindAt_16 rfl (lv_at hl 1 rfl) ?_
      refine va_iald hx hb hK hP 2 2 tow_a2 rfl (x_in (by omega) (by omega)) dX10_kindAt_17 ?_
      refine lv_topi (fun i_3 ei_3 => ?_)
      have ei_3 : i_3 = (σ.2.2.1 42) (Int32.toNatClampNeg q) := ei_3
      refine lv_goto (tgt := 24) hx hb dX10_kindAt_18 (by decide) ?_
      exact x_iretW (v := i_3) (u := ()) hx hb hr hQ trivial hP hD hK hS dX10_kindAt_24 hlocks

def v_o1_startAt : List Cond := .code yX10_startAt cX10_startAt 2 (some .int) :: ([.fieldLink RX10 48 "SlopeRunner$Tokens" "length" "I", .fieldLink RX10 41 "SlopeRunner$Tokens" "count" "I", .fieldLink RX10 19 "SlopeRunner$Tokens" "start" "[I"] ++ wsX100)
set_option maxHeartbeats 4000000 in
set_option maxRecDepth 100000 in
theorem o1_startAt (l : Launch) (D : va_G) (y : Nat → ClassId) (sz : Nat) (ad : Nat → Nat) (σ : OS) (q : Int32) (hct0 : 0 ≤ (σ.1 45).toInt) (hct1 : (σ.1 45).toInt ≤ 700) : Met l yX10_startAt v_o1_startAt ({ frames := 0, cells := 0, slots := 0, locals := 0 } : Room) (va_Pc [.ref (ad 40), .int q] (xPre D (xT y) (tow y ad σ) sz)) (va_Qi (fun (r : Int32) (_ : Unit) => True) (fun (u : Unit) => xB D (xT y) (va_A (tow y ad σ) sz) (tow y ad σ)) (va_A (tow y ad σ) sz)) 0 0 (va_A (tow y ad σ) sz) := by
  refine x_meti (cc := cX10_startAt) (maxL := 2) (by decide) rfl (Nat.le_of_ble_eq_true rfl) ?_
  intro p e s m below meth c A H locs Q hx hb hml hown hts hr hlocks hmn hA hP hK hD hS ls hl hQ
  have hl : lv_has ls 2 [(0, .ref (ad 40)), (1, .int q)] := hl
  have kk_0 : (0 : Int32).toInt = 0 := rfl
  have fl48 := hts (.fieldLink RX10 48 "SlopeRunner$Tokens" "length" "I") (List.mem_of_getElem? (i := 1) rfl)
  have inX10 : ∀ w ∈ wsX100, w ∈ v_o1_startAt := (fun w h => List.mem_cons_of_mem _ (List.mem_append_right _ h))
  have fl41 := hts (.fieldLink RX10 41 "SlopeRunner$Tokens" "count" "I") (List.mem_of_getElem? (i := 2) rfl)
  have fl19 := hts (.fieldLink RX10 19 "SlopeRunner$Tokens" "start" "[I") (List.mem_of_getElem? (i := 3) rfl)
  refine lv_iload_n hx hb dX10_startAt_0 rfl (lv_at hl 1 rfl) ?_
  refine lv_if_lt (tgt := 21) hx hb dX10_startAt_1 (by decide) (fun c_1 => ?_) (fun c_1 => ?_)
  · have kc_1 : q.toInt < 0 := by have h9 := c_1; simp only [ge_iff_le, gt_iff_lt, x_lt, x_le, x_eq, ne_eq, Int32.not_lt, Int32.not_le] at h9; simp only [Int32.reduceToInt] at h9; omega
    refine lv_aload_n hx hb dX10_startAt_21 rfl (lv_at hl 0 rfl) ?_
    refine va_get (D := D) (ci := 9) (v := .int (σ.1 46)) (C := RX10) (T := TX10) (N := 6) hx hb hts inX10 hown hK hP 0 tow_o0 rfl 5 (by decide) fl48 (fun _ h9 => h9) rfl dX10_startAt_22 ?_
    exact x_iretW (v := (σ.1 46)) (u := ()) hx hb hr hQ trivial hP hD hK hS dX10_startAt_25 hlocks
  · have kc_1 : q.toInt ≥ 0 := by have h9 := c_1; simp only [ge_iff_le, gt_iff_lt, x_lt, x_le, x_eq, ne_eq, Int32.not_lt, Int32.not_le] at h9; simp only [Int32.reduceToInt] at h9; omega
    refine lv_iload_n hx hb dX10_startAt_4 rfl (lv_at hl 1 rfl) ?_
    refine lv_aload_n hx hb dX10_startAt_5 rfl (lv_at hl 0 rfl) ?_
    refine va_get (D := D) (ci := 9) (v := .int (σ.1 45)) (C := RX10) (T := TX10) (N := 6) hx hb hts inX10 hown hK hP 0 tow_o0 rfl 4 (by decide) fl41 (fun _ h9 => h9) rfl dX10_startAt_6 ?_
    refine lv_icmp_ge (tgt := 21) hx hb dX10_startAt_9 (by decide) (fun c_2 => ?_) (fun c_2 => ?_)
    · have kc_2 : q.toInt ≥ (σ.1 45).toInt := by have h9 := c_2; simp only [ge_iff_le, gt_iff_lt, x_lt, x_le, x_eq, ne_eq, Int32.not_lt, Int32.not_le] at h9; omega
      refine lv_aload_n hx hb dX10_startAt_21 rfl (lv_at hl 0 rfl) ?_
      refine va_get (D := D) (ci := 9) (v := .int (σ.1 46)) (C := RX10) (T := TX10) (N := 6) hx hb hts inX10 hown hK hP 0 tow_o0 rfl 5 (by decide) fl48 (fun _ h9 => h9) rfl dX10_startAt_22 ?_
      exact x_iretW (v := (σ.1 46)) (u := ()) hx hb hr hQ trivial hP hD hK hS dX10_startAt_25 hlocks
    · have kc_2 : q.toInt < (σ.1 45).toInt := by have h9 := c_2; simp only [ge_iff_le, gt_iff_lt, x_lt, x_le, x_eq, ne_eq, Int32.not_lt, Int32.not_le] at h9; omega
      refine lv_aload_n hx hb dX10_startAt_12 rfl (lv_at hl 0 rfl) ?_
      refine va_get (D := D) (ci := 9) (v := .ref (ad 43)) (C := RX10) (T := TX10) (N := 6) hx hb hts inX10 hown hK hP 0 tow_o0 rfl 2 (by decide) fl19 (fun _ h9 => h9) rfl dX10_startAt_13 ?_
      refine lv_iload_n hx hb dX10_startAt_16 rfl (lv_at hl 1 rfl) ?_
      refine va_iald hx hb hK hP 3 2 tow_a3 rfl (x_in (by omega) (by omega)) dX10_startAt_17 ?_
      refine lv_topi (fun i_3 ei_3 => ?_)
      have ei_3 : i_3 = (σ.2.2.1 43) (Int32.toNatClampNeg q) := ei_3
      refine lv_goto (tgt := 25) hx hb dX10_startAt_18 (by decide) ?_
      exact x_iretW (v := i_3) (u := ()) hx hb hr hQ trivial hP hD hK hS dX10_startAt_25 hlocks

def v_o1_worthAt : List Cond := .code yX10_worthAt cX10_worthAt 2 (some .long) :: ([.fieldLink RX10 41 "SlopeRunner$Tokens" "count" "I", .fieldLink RX10 22 "SlopeRunner$Tokens" "worth" "[J"] ++ wsX100)
set_option maxHeartbeats 4000000 in
set_option maxRecDepth 100000 in
theorem o1_worthAt (l : Launch) (D : va_G) (y : Nat → ClassId) (sz : Nat) (ad : Nat → Nat) (σ : OS) (q : Int32) (hct0 : 0 ≤ (σ.1 45).toInt) (hct1 : (σ.1 45).toInt ≤ 700) : Met l yX10_worthAt v_o1_worthAt ({ frames := 0, cells := 0, slots := 0, locals := 0 } : Room) (va_Pc [.ref (ad 40), .int q] (xPre D (xT y) (tow y ad σ) sz)) (va_Ql (fun (r : Int64) (_ : Unit) => True) (fun (u : Unit) => xB D (xT y) (va_A (tow y ad σ) sz) (tow y ad σ)) (va_A (tow y ad σ) sz)) 0 0 (va_A (tow y ad σ) sz) := by
  refine x_metl (cc := cX10_worthAt) (maxL := 2) (by decide) rfl (Nat.le_of_ble_eq_true rfl) ?_
  intro p e s m below meth c A H locs Q hx hb hml hown hts hr hlocks hmn hA hP hK hD hS ls hl hQ
  have hl : lv_has ls 2 [(0, .ref (ad 40)), (1, .int q)] := hl
  have kk_0 : (0 : Int32).toInt = 0 := rfl
  have fl41 := hts (.fieldLink RX10 41 "SlopeRunner$Tokens" "count" "I") (List.mem_of_getElem? (i := 1) rfl)
  have inX10 : ∀ w ∈ wsX100, w ∈ v_o1_worthAt := (fun w h => List.mem_cons_of_mem _ (List.mem_append_right _ h))
  have fl22 := hts (.fieldLink RX10 22 "SlopeRunner$Tokens" "worth" "[J") (List.mem_of_getElem? (i := 2) rfl)
  refine lv_iload_n hx hb dX10_worthAt_0 rfl (lv_at hl 1 rfl) ?_
  refine lv_if_lt (tgt := 21) hx hb dX10_worthAt_1 (by decide) (fun c_1 => ?_) (fun c_1 => ?_)
  · have kc_1 : q.toInt < 0 := by have h9 := c_1; simp only [ge_iff_le, gt_iff_lt, x_lt, x_le, x_eq, ne_eq, Int32.not_lt, Int32.not_le] at h9; simp only [Int32.reduceToInt] at h9; omega
    refine lv_lconst (v := 0) hx hb dX10_worthAt_21 (by decide) ?_
    exact x_lretW (v := 0) (u := ()) hx hb hr hQ trivial hP hD hK hS dX10_worthAt_22 hlocks
  · have kc_1 : q.toInt ≥ 0 := by have h9 := c_1; simp only [ge_iff_le, gt_iff_lt, x_lt, x_le, x_eq, ne_eq, Int32.not_lt, Int32.not_le] at h9; simp only [Int32.reduceToInt] at h9; omega
    refine lv_iload_n hx hb dX10_worthAt_4 rfl (lv_at hl 1 rfl) ?_
    refine lv_aload_n hx hb dX10_worthAt_5 rfl (lv_at hl 0 rfl) ?_
    refine va_get (D := D) (ci := 9) (v := .int (σ.1 45)) (C := RX10) (T := TX10) (N := 6) hx hb hts inX10 hown hK hP 0 tow_o0 rfl 4 (by decide) fl41 (fun _ h9 => h9) rfl dX10_worthAt_6 ?_
    refine lv_icmp_ge (tgt := 21) hx hb dX10_worthAt_9 (by decide) (fun c_2 => ?_) (fun c_2 => ?_)
    · have kc_2 : q.toInt ≥ (σ.1 45).toInt := by have h9 := c_2; simp only [ge_iff_le, gt_iff_lt, x_lt, x_le, x_eq, ne_eq, Int32.not_lt, Int32.not_le] at h9; omega
      refine lv_lconst (v := 0) hx hb dX10_worthAt_21 (by decide) ?_
      exact x_lretW (v := 0) (u := ()) hx hb hr hQ trivial hP hD hK hS dX10_worthAt_22 hlocks
    · have kc_2 : q.toInt < (σ.1 45).toInt := by have h9 := c_2; simp only [ge_iff_le, gt_iff_lt, x_lt, x_le, x_eq, ne_eq, Int32.not_lt, Int32.not_le] at h9; omega
      refine lv_aload_n hx hb dX10_worthAt_12 rfl (lv_at hl 0 rfl) ?_
      refine va_get (D := D) (ci := 9) (v := .ref (ad 44)) (C := RX10) (T := TX10) (N := 6) hx hb hts inX10 hown hK hP 0 tow_o0 rfl 3 (by decide) fl22 (fun _ h9 => h9) rfl dX10_worthAt_13 ?_
      refine lv_iload_n hx hb dX10_worthAt_16 rfl (lv_at hl 1 rfl) ?_
      refine va_lald hx hb hK hP 4 3 tow_a4 rfl (x_in (by omega) (by omega)) dX10_worthAt_17 ?_
      refine lv_topl (fun j_3 ej_3 => ?_)
      have ej_3 : j_3 = (σ.2.2.2 44) (Int32.toNatClampNeg q) := ej_3
      refine lv_goto (tgt := 22) hx hb dX10_worthAt_18 (by decide) ?_
      exact x_lretW (v := j_3) (u := ()) hx hb hr hQ trivial hP hD hK hS dX10_worthAt_22 hlocks

def v_z_refuse : List Cond := .code yX5_refuse cX5_refuse 2 (some .boolean) :: ([.fieldLink RX5 22 "SlopeRunner$Parser" "kindOfFault" "I", .fieldLink RX5 58 "SlopeRunner$Parser" "bytesIntoToken" "I"] ++ wsX50)
set_option maxHeartbeats 4000000 in
set_option maxRecDepth 100000 in
theorem z_refuse (l : Launch) (D : va_G) (y : Nat → ClassId) (sz : Nat) (ad : Nat → Nat) (σ : OS) (q : Int32) : Met l yX5_refuse v_z_refuse ({ frames := 0, cells := 0, slots := 0, locals := 0 } : Room) (va_Pc [.ref (ad 30), .int q] (xPre D (xT y) (prw y ad σ) sz)) (va_Qi (fun (r : Int32) (u : Int32 × Int32) => r.toInt = 0) (fun (u : Int32 × Int32) => xB D (xT y) (va_A (prw y ad σ) sz) (prw y ad (sI (sI σ 36 u.1) 37 u.2))) (va_A (prw y ad σ) sz)) 0 0 (va_A (prw y ad σ) sz) := by
  refine x_meti (cc := cX5_refuse) (maxL := 2) (by decide) rfl (Nat.le_of_ble_eq_true rfl) ?_
  intro p e s m below meth c A H locs Q hx hb hml hown hts hr hlocks hmn hA hP hK hD hS ls hl hQ
  have hl : lv_has ls 2 [(0, .ref (ad 30)), (1, .int q)] := hl
  have fl22 := hts (.fieldLink RX5 22 "SlopeRunner$Parser" "kindOfFault" "I") (List.mem_of_getElem? (i := 1) rfl)
  have inX5 : ∀ w ∈ wsX50, w ∈ v_z_refuse := (fun w h => List.mem_cons_of_mem _ (List.mem_append_right _ h))
  have fl58 := hts (.fieldLink RX5 58 "SlopeRunner$Parser" "bytesIntoToken" "I") (List.mem_of_getElem? (i := 2) rfl)
  have kk_0 : (0 : Int32).toInt = 0 := rfl
  refine lv_aload_n hx hb dX5_refuse_0 rfl (lv_at hl 0 rfl) ?_
  refine lv_iload_n hx hb dX5_refuse_1 rfl (lv_at hl 1 rfl) ?_
  refine va_put (D := D) (ci := 4) (v := .int q) (ty := .int) (C := RX5) (T := TX5) (N := 8) hx hb hts inX5 tyX5 tyX5_ok nmX5 hown hK hP hD hS 0 prw_o0 rfl 5 (by decide) fl22 (fun _ h9 => h9) rfl (by decide +kernel) rfl rfl (Nat.le_of_ble_eq_true rfl) dX5_refuse_2 (fun H locs hP hD hS => ?_)
  have hP : va_P D vwCl (prw y ad (sI σ 36 q)) H := x_trP hP prw_p0_5
  have hD : va_D A (prw y ad (sI σ 36 q)) := x_trD hD prw_p0_5
  refine lv_aload_n hx hb dX5_refuse_5 rfl (lv_at hl 0 rfl) ?_
  refine lv_iconst (v := 0) hx hb dX5_refuse_6 (by decide) ?_
  refine va_put (D := D) (ci := 4) (v := .int 0) (ty := .int) (C := RX5) (T := TX5) (N := 8) hx hb hts inX5 tyX5 tyX5_ok nmX5 hown hK hP hD hS 0 prw_o0 rfl 6 (by decide) fl58 (fun _ h9 => h9) rfl (by decide +kernel) rfl rfl (Nat.le_of_ble_eq_true rfl) dX5_refuse_7 (fun H locs hP hD hS => ?_)
  have hP : va_P D vwCl (prw y ad (sI (sI σ 36 q) 37 0)) H := x_trP hP prw_p0_6
  have hD : va_D A (prw y ad (sI (sI σ 36 q) 37 0)) := x_trD hD prw_p0_6
  refine lv_iconst (v := 0) hx hb dX5_refuse_10 (by decide) ?_
  exact x_zretW (v := 0) (u := (q, 0)) hx hb hr hQ rfl (by (try dsimp only); exact rfl) hP hD hK hS dX5_refuse_11 hlocks

def v_z_refuseWithin : List Cond := .code yX5_refuseWithin cX5_refuseWithin 3 (some .boolean) :: ([.fieldLink RX5 22 "SlopeRunner$Parser" "kindOfFault" "I", .fieldLink RX5 58 "SlopeRunner$Parser" "bytesIntoToken" "I"] ++ wsX50)
set_option maxHeartbeats 4000000 in
set_option maxRecDepth 100000 in
theorem z_refuseWithin (l : Launch) (D : va_G) (y : Nat → ClassId) (sz : Nat) (ad : Nat → Nat) (σ : OS) (q i : Int32) : Met l yX5_refuseWithin v_z_refuseWithin ({ frames := 0, cells := 0, slots := 0, locals := 0 } : Room) (va_Pc [.ref (ad 30), .int q, .int i] (xPre D (xT y) (prw y ad σ) sz)) (va_Qi (fun (r : Int32) (u : Int32 × Int32) => r.toInt = 0) (fun (u : Int32 × Int32) => xB D (xT y) (va_A (prw y ad σ) sz) (prw y ad (sI (sI σ 36 u.1) 37 u.2))) (va_A (prw y ad σ) sz)) 0 0 (va_A (prw y ad σ) sz) := by
  refine x_meti (cc := cX5_refuseWithin) (maxL := 3) (by decide) rfl (Nat.le_of_ble_eq_true rfl) ?_
  intro p e s m below meth c A H locs Q hx hb hml hown hts hr hlocks hmn hA hP hK hD hS ls hl hQ
  have hl : lv_has ls 3 [(0, .ref (ad 30)), (1, .int q), (2, .int i)] := hl
  have fl22 := hts (.fieldLink RX5 22 "SlopeRunner$Parser" "kindOfFault" "I") (List.mem_of_getElem? (i := 1) rfl)
  have inX5 : ∀ w ∈ wsX50, w ∈ v_z_refuseWithin := (fun w h => List.mem_cons_of_mem _ (List.mem_append_right _ h))
  have fl58 := hts (.fieldLink RX5 58 "SlopeRunner$Parser" "bytesIntoToken" "I") (List.mem_of_getElem? (i := 2) rfl)
  have kk_0 : (0 : Int32).toInt = 0 := rfl
  refine lv_aload_n hx hb dX5_refuseWithin_0 rfl (lv_at hl 0 rfl) ?_
  refine lv_iload_n hx hb dX5_refuseWithin_1 rfl (lv_at hl 1 rfl) ?_
  refine va_put (D := D) (ci := 4) (v := .int q) (ty := .int) (C := RX5) (T := TX5) (N := 8) hx hb hts inX5 tyX5 tyX5_ok nmX5 hown hK hP hD hS 0 prw_o0 rfl 5 (by decide) fl22 (fun _ h9 => h9) rfl (by decide +kernel) rfl rfl (Nat.le_of_ble_eq_true rfl) dX5_refuseWithin_2 (fun H locs hP hD hS => ?_)
  have hP : va_P D vwCl (prw y ad (sI σ 36 q)) H := x_trP hP prw_p0_5
  have hD : va_D A (prw y ad (sI σ 36 q)) := x_trD hD prw_p0_5
  refine lv_aload_n hx hb dX5_refuseWithin_5 rfl (lv_at hl 0 rfl) ?_
  refine lv_iload_n hx hb dX5_refuseWithin_6 rfl (lv_at hl 2 rfl) ?_
  refine va_put (D := D) (ci := 4) (v := .int i) (ty := .int) (C := RX5) (T := TX5) (N := 8) hx hb hts inX5 tyX5 tyX5_ok nmX5 hown hK hP hD hS 0 prw_o0 rfl 6 (by decide) fl58 (fun _ h9 => h9) rfl (by decide +kernel) rfl rfl (Nat.le_of_ble_eq_true rfl) dX5_refuseWithin_7 (fun H locs hP hD hS => ?_)
  have hP : va_P D vwCl (prw y ad (sI (sI σ 36 q) 37 i)) H := x_trP hP prw_p0_6
  have hD : va_D A (prw y ad (sI (sI σ 36 q) 37 i)) := x_trD hD prw_p0_6
  refine lv_iconst (v := 0) hx hb dX5_refuseWithin_10 (by decide) ?_
  exact x_zretW (v := 0) (u := (q, i)) hx hb hr hQ rfl (by (try dsimp only); exact rfl) hP hD hK hS dX5_refuseWithin_11 hlocks

def v_z_pass : List Cond := .code yX5_pass cX5_pass 1 none :: ([.fieldLink RX5 38 "SlopeRunner$Parser" "at" "I", .fieldLink RX5 12 "SlopeRunner$Parser" "tokens" "LSlopeRunner$Tokens;", .fieldLink RX5 45 "SlopeRunner$Parser" "kind" "I"] ++ ((wsV RX5 41 RX10 yX10_kindAt v_o1_kindAt) ++ wsX50))
theorem g_z_pass_0 : GoodIn v_z_pass (wsV RX5 41 RX10 yX10_kindAt v_o1_kindAt) := goodIn_sub (fun w h => List.mem_cons_of_mem _ (List.mem_append_right _ (List.mem_append_left _ h))) (by decide +kernel)
set_option maxHeartbeats 4000000 in
set_option maxRecDepth 100000 in
theorem z_pass (l : Launch) (D : va_G) (y : Nat → ClassId) (sz : Nat) (ad : Nat → Nat) (σ : OS) (htcount0 : 0 ≤ (σ.1 45).toInt) (htcount1 : (σ.1 45).toInt ≤ 700) : Met l yX5_pass v_z_pass ({ frames := 1, cells := 0, slots := 0, locals := 21 } : Room) (va_Pc [.ref (ad 30)] (xPre D (xT y) (prw y ad σ) sz)) (va_Qv (fun (u : Int32 × Int32) => True) (fun (u : Int32 × Int32) => xB D (xT y) (va_A (prw y ad σ) sz) (prw y ad (sI (sI σ 33 u.1) 34 u.2))) (va_A (prw y ad σ) sz)) 0 0 (va_A (prw y ad σ) sz) := by
  refine x_metv (cc := cX5_pass) (maxL := 1) (by decide) rfl (Nat.le_of_ble_eq_true rfl) ?_
  intro p e s m below meth c A H locs Q hx hb hml hown hts hr hlocks hmn hA hP hK hD hS ls hl hQ
  have hl : lv_has ls 1 [(0, .ref (ad 30))] := hl
  have fl38 := hts (.fieldLink RX5 38 "SlopeRunner$Parser" "at" "I") (List.mem_of_getElem? (i := 1) rfl)
  have inX5 : ∀ w ∈ wsX50, w ∈ v_z_pass := (fun w h => List.mem_cons_of_mem _ (List.mem_append_right _ (List.mem_append_right _ h)))
  have fl12 := hts (.fieldLink RX5 12 "SlopeRunner$Parser" "tokens" "LSlopeRunner$Tokens;") (List.mem_of_getElem? (i := 2) rfl)
  have fl45 := hts (.fieldLink RX5 45 "SlopeRunner$Parser" "kind" "I") (List.mem_of_getElem? (i := 3) rfl)
  refine lv_aload_n hx hb dX5_pass_0 rfl (lv_at hl 0 rfl) ?_
  refine lv_dup hx hb dX5_pass_1 rfl ?_
  refine va_get (D := D) (ci := 4) (v := .int (σ.1 33)) (C := RX5) (T := TX5) (N := 8) hx hb hts inX5 hown hK hP 0 prw_o0 rfl 2 (by decide) fl38 (fun _ h9 => h9) rfl dX5_pass_2 ?_
  refine lv_iconst (v := 1) hx hb dX5_pass_5 (by decide) ?_
  refine lv_iadd hx hb dX5_pass_6 ?_
  refine lv_topi (fun i_1 ei_1 => ?_)
  refine va_put (D := D) (ci := 4) (v := .int i_1) (ty := .int) (C := RX5) (T := TX5) (N := 8) hx hb hts inX5 tyX5 tyX5_ok nmX5 hown hK hP hD hS 0 prw_o0 rfl 2 (by decide) fl38 (fun _ h9 => h9) rfl (by decide +kernel) rfl rfl (Nat.le_of_ble_eq_true rfl) dX5_pass_7 (fun H locs hP hD hS => ?_)
  have hP : va_P D vwCl (prw y ad (sI σ 33 i_1)) H := x_trP hP prw_p0_2
  have hD : va_D A (prw y ad (sI σ 33 i_1)) := x_trD hD prw_p0_2
  refine lv_aload_n hx hb dX5_pass_10 rfl (lv_at hl 0 rfl) ?_
  refine lv_aload_n hx hb dX5_pass_11 rfl (lv_at hl 0 rfl) ?_
  refine va_get (D := D) (ci := 4) (v := .ref (ad 40)) (C := RX5) (T := TX5) (N := 8) hx hb hts inX5 hown hK hP 0 prw_o0 rfl 0 (by decide) fl12 (fun _ h9 => h9) rfl dX5_pass_12 ?_
  refine lv_aload_n hx hb dX5_pass_15 rfl (lv_at hl 0 rfl) ?_
  refine va_get (D := D) (ci := 4) (v := .int i_1) (C := RX5) (T := TX5) (N := 8) hx hb hts inX5 hown hK hP 0 prw_o0 rfl 2 (by decide) fl38 (fun _ h9 => h9) rfl dX5_pass_16 ?_
  have hPs : va_P D vwCl (tow y ad (sI σ 33 i_1)) H := x_suP hP [1, 3, 4, 5, 6] rfl
  have hDs : va_D A (tow y ad (sI σ 33 i_1)) := x_suD hD [1, 3, 4, 5, 6] rfl (by decide)
  refine x_calliS (b1 := fun (u : Unit) => (prw y ad (sI σ 33 i_1))) [1, 3, 4, 5, 6] (va_runV (As := [.int i_1]) (rest := [.ref (ad 30)]) ⟨hx, hb, hml, hown, hts⟩ (o1_kindAt l D y H.size ad (sI σ 33 i_1) i_1 (show 0 ≤ ((σ.1 45)).toInt from by first | omega | decide) (show ((σ.1 45)).toInt ≤ 700 from by first | omega | decide)) (cwV 1 hts g_z_pass_0 rfl rfl rfl (by decide +kernel) ⟨Nat.le_of_ble_eq_true rfl, Nat.le_of_ble_eq_true rfl⟩) (x_preV (q := (RX10, TX10, 6)) hK hPs hDs (ci := 9) (q0 := 0) rfl tow_o0) rfl rfl hl.1 rfl (lv_room (Nat.le_of_ble_eq_true rfl)) dX5_pass_19 ⟨Nat.le_of_ble_eq_true rfl, Nat.le_of_ble_eq_true rfl⟩) hP hD hS hA rfl (fun _ => rfl) (fun _ => rfl) (fun _ => rfl) (fun r_2 u H locs hw hP hD hS => ?_)
  try dsimp only at hw
  have hP : va_P D vwCl (prw y ad (sI σ 33 i_1)) H := hP
  have hD : va_D A (prw y ad (sI σ 33 i_1)) := hD
  refine va_put (D := D) (ci := 4) (v := .int r_2) (ty := .int) (C := RX5) (T := TX5) (N := 8) hx hb hts inX5 tyX5 tyX5_ok nmX5 hown hK hP hD hS 0 prw_o0 rfl 3 (by decide) fl45 (fun _ h9 => h9) rfl (by decide +kernel) rfl rfl (Nat.le_of_ble_eq_true rfl) dX5_pass_22 (fun H locs hP hD hS => ?_)
  have hP : va_P D vwCl (prw y ad (sI (sI σ 33 i_1) 34 r_2)) H := x_trP hP prw_p0_3
  have hD : va_D A (prw y ad (sI (sI σ 33 i_1) 34 r_2)) := x_trD hD prw_p0_3
  exact x_vretW (u := (i_1, r_2)) hx hb hr hQ trivial hP hD hK hS dX5_pass_25 hlocks

def v_z_isName : List Cond := .code yX5_isName cX5_isName 1 (some .boolean) :: ([.fieldLink RX5 45 "SlopeRunner$Parser" "kind" "I"] ++ ((wsV RX5 61 RX5 yX5_refuse v_z_refuse) ++ ((wsV RX5 205 RX5 yX5_refuseWithin v_z_refuseWithin) ++ wsX50)))
theorem g_z_isName_0 : GoodIn v_z_isName (wsV RX5 61 RX5 yX5_refuse v_z_refuse) := goodIn_sub (fun w h => List.mem_cons_of_mem _ (List.mem_append_right _ (List.mem_append_left _ h))) (by decide +kernel)
theorem g_z_isName_1 : GoodIn v_z_isName (wsV RX5 205 RX5 yX5_refuseWithin v_z_refuseWithin) := goodIn_sub (fun w h => List.mem_cons_of_mem _ (List.mem_append_right _ (List.mem_append_right _ (List.mem_append_left _ h)))) (by decide +kernel)
set_option maxHeartbeats 4000000 in
set_option maxRecDepth 100000 in
theorem z_isName (l : Launch) (D : va_G) (y : Nat → ClassId) (sz : Nat) (ad : Nat → Nat) (σ : OS)  : Met l yX5_isName v_z_isName ({ frames := 1, cells := 0, slots := 0, locals := 22 } : Room) (va_Pc [.ref (ad 30)] (xPre D (xT y) (prw y ad σ) sz)) (va_Qi (fun (r : Int32) (u : Int32 × Int32) => r.toInt = 0 ∨ r.toInt = 1) (fun (u : Int32 × Int32) => xB D (xT y) (va_A (prw y ad σ) sz) (prw y ad (sI (sI σ 36 u.1) 37 u.2))) (va_A (prw y ad σ) sz)) 0 0 (va_A (prw y ad σ) sz) := by
  refine x_meti (cc := cX5_isName) (maxL := 1) (by decide) rfl (Nat.le_of_ble_eq_true rfl) ?_
  intro p e s m below meth c A H locs Q hx hb hml hown hts hr hlocks hmn hA hP hK hD hS ls hl hQ
  have hl : lv_has ls 1 [(0, .ref (ad 30))] := hl
  have fl45 := hts (.fieldLink RX5 45 "SlopeRunner$Parser" "kind" "I") (List.mem_of_getElem? (i := 1) rfl)
  have inX5 : ∀ w ∈ wsX50, w ∈ v_z_isName := (fun w h => List.mem_cons_of_mem _ (List.mem_append_right _ (List.mem_append_right _ (List.mem_append_right _ h))))
  have kk_259 : (259 : Int32).toInt = 259 := rfl
  have kk_258 : (258 : Int32).toInt = 258 := rfl
  have kk_1 : (1 : Int32).toInt = 1 := rfl
  have kk_0 : (0 : Int32).toInt = 0 := rfl
  have kk_6 : (6 : Int32).toInt = 6 := rfl
  refine lv_aload_n hx hb dX5_isName_0 rfl (lv_at hl 0 rfl) ?_
  refine va_get (D := D) (ci := 4) (v := .int (σ.1 34)) (C := RX5) (T := TX5) (N := 8) hx hb hts inX5 hown hK hP 0 prw_o0 rfl 3 (by decide) fl45 (fun _ h9 => h9) rfl dX5_isName_1 ?_
  refine lv_sipush (v := 259) hx hb dX5_isName_4 (by decide) ?_
  refine lv_icmp_ne (tgt := 18) hx hb dX5_isName_7 (by decide) (fun c_1 => ?_) (fun c_1 => ?_)
  · have kc_1 : (σ.1 34).toInt ≠ 259 := by have h9 := c_1; simp only [ge_iff_le, gt_iff_lt, x_lt, x_le, x_eq, ne_eq, Int32.not_lt, Int32.not_le] at h9; simp only [Int32.reduceToInt] at h9; omega
    refine lv_aload_n hx hb dX5_isName_18 rfl (lv_at hl 0 rfl) ?_
    refine va_get (D := D) (ci := 4) (v := .int (σ.1 34)) (C := RX5) (T := TX5) (N := 8) hx hb hts inX5 hown hK hP 0 prw_o0 rfl 3 (by decide) fl45 (fun _ h9 => h9) rfl dX5_isName_19 ?_
    refine lv_sipush (v := 258) hx hb dX5_isName_22 (by decide) ?_
    refine lv_icmp_eq (tgt := 36) hx hb dX5_isName_25 (by decide) (fun c_2 => ?_) (fun c_2 => ?_)
    · have kc_2 : (σ.1 34).toInt = 258 := by have h9 := c_2; simp only [ge_iff_le, gt_iff_lt, x_lt, x_le, x_eq, ne_eq, Int32.not_lt, Int32.not_le] at h9; simp only [Int32.reduceToInt] at h9; omega
      refine lv_iconst (v := 1) hx hb dX5_isName_36 (by decide) ?_
      refine lv_goto (tgt := 41) hx hb dX5_isName_37 (by decide) ?_
      have hP : va_P D vwCl (prw y ad (sI (sI σ 36 (σ.1 36)) 37 (σ.1 37))) H := hP
      have hD : va_D A (prw y ad (sI (sI σ 36 (σ.1 36)) 37 (σ.1 37))) := hD
      exact x_zretW (v := 1) (u := ((σ.1 36), (σ.1 37))) hx hb hr hQ rfl (by (try dsimp only); exact (by first | decide | exact Or.inl hw | omega)) hP hD hK hS dX5_isName_41 hlocks
    · have kc_2 : (σ.1 34).toInt ≠ 258 := by have h9 := c_2; simp only [ge_iff_le, gt_iff_lt, x_lt, x_le, x_eq, ne_eq, Int32.not_lt, Int32.not_le] at h9; simp only [Int32.reduceToInt] at h9; omega
      refine lv_aload_n hx hb dX5_isName_28 rfl (lv_at hl 0 rfl) ?_
      refine lv_iconst (v := 1) hx hb dX5_isName_29 (by decide) ?_
      refine x_calliW (va_runV (As := [.int 1]) (rest := []) ⟨hx, hb, hml, hown, hts⟩ (z_refuse l D y H.size ad σ 1) (cwV 1 hts g_z_isName_0 rfl rfl rfl (by decide +kernel) ⟨Nat.le_of_ble_eq_true rfl, Nat.le_of_ble_eq_true rfl⟩) (x_preV (q := (RX5, TX5, 8)) hK hP hD (ci := 4) (q0 := 0) rfl prw_o0) rfl rfl hl.1 rfl (lv_room (Nat.le_of_ble_eq_true rfl)) dX5_isName_30 ⟨Nat.le_of_ble_eq_true rfl, Nat.le_of_ble_eq_true rfl⟩) hP hD hS hA (fun r_3 u H locs hw hP hD hS => ?_)
      obtain ⟨n_4, n_5⟩ := u
      try dsimp only at hw
      have hP : va_P D vwCl (prw y ad (sI (sI σ 36 n_4) 37 n_5)) H := hP
      have hD : va_D A (prw y ad (sI (sI σ 36 n_4) 37 n_5)) := hD
      replace hw : r_3.toInt = 0 := hw
      refine lv_if_eq (tgt := 40) hx hb dX5_isName_33 (by decide) (fun c_6 => ?_) (fun c_6 => ?_)
      · have kc_6 : r_3.toInt = 0 := by have h9 := c_6; simp only [ge_iff_le, gt_iff_lt, x_lt, x_le, x_eq, ne_eq, Int32.not_lt, Int32.not_le] at h9; simp only [Int32.reduceToInt] at h9; omega
        refine lv_iconst (v := 0) hx hb dX5_isName_40 (by decide) ?_
        exact x_zretW (v := 0) (u := (n_4, n_5)) hx hb hr hQ rfl (by (try dsimp only); exact (by first | decide | exact Or.inl hw | omega)) hP hD hK hS dX5_isName_41 hlocks
      · have kc_6 : r_3.toInt ≠ 0 := by have h9 := c_6; simp only [ge_iff_le, gt_iff_lt, x_lt, x_le, x_eq, ne_eq, Int32.not_lt, Int32.not_le] at h9; simp only [Int32.reduceToInt] at h9; omega
        refine lv_iconst (v := 1) hx hb dX5_isName_36 (by decide) ?_
        refine lv_goto (tgt := 41) hx hb dX5_isName_37 (by decide) ?_
        exact x_zretW (v := 1) (u := (n_4, n_5)) hx hb hr hQ rfl (by (try dsimp only); exact (by first | decide | exact Or.inl hw | omega)) hP hD hK hS dX5_isName_41 hlocks
  · have kc_1 : (σ.1 34).toInt = 259 := by have h9 := c_1; simp only [ge_iff_le, gt_iff_lt, x_lt, x_le, x_eq, ne_eq, Int32.not_lt, Int32.not_le] at h9; simp only [Int32.reduceToInt] at h9; omega
    refine lv_aload_n hx hb dX5_isName_10 rfl (lv_at hl 0 rfl) ?_
    refine lv_iconst (v := 1) hx hb dX5_isName_11 (by decide) ?_
    refine lv_bipush (v := 6) hx hb dX5_isName_12 (by decide) ?_
    refine x_calliW (va_runV (As := [.int 1, .int 6]) (rest := []) ⟨hx, hb, hml, hown, hts⟩ (z_refuseWithin l D y H.size ad σ 1 6) (cwV 2 hts g_z_isName_1 rfl rfl rfl (by decide +kernel) ⟨Nat.le_of_ble_eq_true rfl, Nat.le_of_ble_eq_true rfl⟩) (x_preV (q := (RX5, TX5, 8)) hK hP hD (ci := 4) (q0 := 0) rfl prw_o0) rfl rfl hl.1 rfl (lv_room (Nat.le_of_ble_eq_true rfl)) dX5_isName_14 ⟨Nat.le_of_ble_eq_true rfl, Nat.le_of_ble_eq_true rfl⟩) hP hD hS hA (fun r_7 u H locs hw hP hD hS => ?_)
    obtain ⟨n_8, n_9⟩ := u
    try dsimp only at hw
    have hP : va_P D vwCl (prw y ad (sI (sI σ 36 n_8) 37 n_9)) H := hP
    have hD : va_D A (prw y ad (sI (sI σ 36 n_8) 37 n_9)) := hD
    replace hw : r_7.toInt = 0 := hw
    exact x_zretW (v := r_7) (u := (n_8, n_9)) hx hb hr hQ (x_01 (by first | exact hw | exact Or.inl hw | omega)) (by (try dsimp only); exact (by first | decide | exact Or.inl hw | omega)) hP hD hK hS dX5_isName_17 hlocks

def v_z_isNumber : List Cond := .code yX5_isNumber cX5_isNumber 1 (some .boolean) :: ([.fieldLink RX5 45 "SlopeRunner$Parser" "kind" "I"] ++ ((wsV RX5 61 RX5 yX5_refuse v_z_refuse) ++ ((wsV RX5 205 RX5 yX5_refuseWithin v_z_refuseWithin) ++ wsX50)))
theorem g_z_isNumber_0 : GoodIn v_z_isNumber (wsV RX5 61 RX5 yX5_refuse v_z_refuse) := goodIn_sub (fun w h => List.mem_cons_of_mem _ (List.mem_append_right _ (List.mem_append_left _ h))) (by decide +kernel)
theorem g_z_isNumber_1 : GoodIn v_z_isNumber (wsV RX5 205 RX5 yX5_refuseWithin v_z_refuseWithin) := goodIn_sub (fun w h => List.mem_cons_of_mem _ (List.mem_append_right _ (List.mem_append_right _ (List.mem_append_left _ h)))) (by decide +kernel)
set_option maxHeartbeats 4000000 in
set_option maxRecDepth 100000 in
theorem z_isNumber (l : Launch) (D : va_G) (y : Nat → ClassId) (sz : Nat) (ad : Nat → Nat) (σ : OS)  : Met l yX5_isNumber v_z_isNumber ({ frames := 1, cells := 0, slots := 0, locals := 22 } : Room) (va_Pc [.ref (ad 30)] (xPre D (xT y) (prw y ad σ) sz)) (va_Qi (fun (r : Int32) (u : Int32 × Int32) => r.toInt = 0 ∨ r.toInt = 1) (fun (u : Int32 × Int32) => xB D (xT y) (va_A (prw y ad σ) sz) (prw y ad (sI (sI σ 36 u.1) 37 u.2))) (va_A (prw y ad σ) sz)) 0 0 (va_A (prw y ad σ) sz) := by
  refine x_meti (cc := cX5_isNumber) (maxL := 1) (by decide) rfl (Nat.le_of_ble_eq_true rfl) ?_
  intro p e s m below meth c A H locs Q hx hb hml hown hts hr hlocks hmn hA hP hK hD hS ls hl hQ
  have hl : lv_has ls 1 [(0, .ref (ad 30))] := hl
  have fl45 := hts (.fieldLink RX5 45 "SlopeRunner$Parser" "kind" "I") (List.mem_of_getElem? (i := 1) rfl)
  have inX5 : ∀ w ∈ wsX50, w ∈ v_z_isNumber := (fun w h => List.mem_cons_of_mem _ (List.mem_append_right _ (List.mem_append_right _ (List.mem_append_right _ h))))
  have kk_261 : (261 : Int32).toInt = 261 := rfl
  have kk_260 : (260 : Int32).toInt = 260 := rfl
  have kk_1 : (1 : Int32).toInt = 1 := rfl
  have kk_0 : (0 : Int32).toInt = 0 := rfl
  have kk_4 : (4 : Int32).toInt = 4 := rfl
  refine lv_aload_n hx hb dX5_isNumber_0 rfl (lv_at hl 0 rfl) ?_
  refine va_get (D := D) (ci := 4) (v := .int (σ.1 34)) (C := RX5) (T := TX5) (N := 8) hx hb hts inX5 hown hK hP 0 prw_o0 rfl 3 (by decide) fl45 (fun _ h9 => h9) rfl dX5_isNumber_1 ?_
  refine lv_sipush (v := 261) hx hb dX5_isNumber_4 (by decide) ?_
  refine lv_icmp_ne (tgt := 17) hx hb dX5_isNumber_7 (by decide) (fun c_1 => ?_) (fun c_1 => ?_)
  · have kc_1 : (σ.1 34).toInt ≠ 261 := by have h9 := c_1; simp only [ge_iff_le, gt_iff_lt, x_lt, x_le, x_eq, ne_eq, Int32.not_lt, Int32.not_le] at h9; simp only [Int32.reduceToInt] at h9; omega
    refine lv_aload_n hx hb dX5_isNumber_17 rfl (lv_at hl 0 rfl) ?_
    refine va_get (D := D) (ci := 4) (v := .int (σ.1 34)) (C := RX5) (T := TX5) (N := 8) hx hb hts inX5 hown hK hP 0 prw_o0 rfl 3 (by decide) fl45 (fun _ h9 => h9) rfl dX5_isNumber_18 ?_
    refine lv_sipush (v := 260) hx hb dX5_isNumber_21 (by decide) ?_
    refine lv_icmp_eq (tgt := 35) hx hb dX5_isNumber_24 (by decide) (fun c_2 => ?_) (fun c_2 => ?_)
    · have kc_2 : (σ.1 34).toInt = 260 := by have h9 := c_2; simp only [ge_iff_le, gt_iff_lt, x_lt, x_le, x_eq, ne_eq, Int32.not_lt, Int32.not_le] at h9; simp only [Int32.reduceToInt] at h9; omega
      refine lv_iconst (v := 1) hx hb dX5_isNumber_35 (by decide) ?_
      refine lv_goto (tgt := 40) hx hb dX5_isNumber_36 (by decide) ?_
      have hP : va_P D vwCl (prw y ad (sI (sI σ 36 (σ.1 36)) 37 (σ.1 37))) H := hP
      have hD : va_D A (prw y ad (sI (sI σ 36 (σ.1 36)) 37 (σ.1 37))) := hD
      exact x_zretW (v := 1) (u := ((σ.1 36), (σ.1 37))) hx hb hr hQ rfl (by (try dsimp only); exact (by first | decide | exact Or.inl hw | omega)) hP hD hK hS dX5_isNumber_40 hlocks
    · have kc_2 : (σ.1 34).toInt ≠ 260 := by have h9 := c_2; simp only [ge_iff_le, gt_iff_lt, x_lt, x_le, x_eq, ne_eq, Int32.not_lt, Int32.not_le] at h9; simp only [Int32.reduceToInt] at h9; omega
      refine lv_aload_n hx hb dX5_isNumber_27 rfl (lv_at hl 0 rfl) ?_
      refine lv_iconst (v := 1) hx hb dX5_isNumber_28 (by decide) ?_
      refine x_calliW (va_runV (As := [.int 1]) (rest := []) ⟨hx, hb, hml, hown, hts⟩ (z_refuse l D y H.size ad σ 1) (cwV 1 hts g_z_isNumber_0 rfl rfl rfl (by decide +kernel) ⟨Nat.le_of_ble_eq_true rfl, Nat.le_of_ble_eq_true rfl⟩) (x_preV (q := (RX5, TX5, 8)) hK hP hD (ci := 4) (q0 := 0) rfl prw_o0) rfl rfl hl.1 rfl (lv_room (Nat.le_of_ble_eq_true rfl)) dX5_isNumber_29 ⟨Nat.le_of_ble_eq_true rfl, Nat.le_of_ble_eq_true rfl⟩) hP hD hS hA (fun r_3 u H locs hw hP hD hS => ?_)
      obtain ⟨n_4, n_5⟩ := u
      try dsimp only at hw
      have hP : va_P D vwCl (prw y ad (sI (sI σ 36 n_4) 37 n_5)) H := hP
      have hD : va_D A (prw y ad (sI (sI σ 36 n_4) 37 n_5)) := hD
      replace hw : r_3.toInt = 0 := hw
      refine lv_if_eq (tgt := 39) hx hb dX5_isNumber_32 (by decide) (fun c_6 => ?_) (fun c_6 => ?_)
      · have kc_6 : r_3.toInt = 0 := by have h9 := c_6; simp only [ge_iff_le, gt_iff_lt, x_lt, x_le, x_eq, ne_eq, Int32.not_lt, Int32.not_le] at h9; simp only [Int32.reduceToInt] at h9; omega
        refine lv_iconst (v := 0) hx hb dX5_isNumber_39 (by decide) ?_
        exact x_zretW (v := 0) (u := (n_4, n_5)) hx hb hr hQ rfl (by (try dsimp only); exact (by first | decide | exact Or.inl hw | omega)) hP hD hK hS dX5_isNumber_40 hlocks
      · have kc_6 : r_3.toInt ≠ 0 := by have h9 := c_6; simp only [ge_iff_le, gt_iff_lt, x_lt, x_le, x_eq, ne_eq, Int32.not_lt, Int32.not_le] at h9; simp only [Int32.reduceToInt] at h9; omega
        refine lv_iconst (v := 1) hx hb dX5_isNumber_35 (by decide) ?_
        refine lv_goto (tgt := 40) hx hb dX5_isNumber_36 (by decide) ?_
        exact x_zretW (v := 1) (u := (n_4, n_5)) hx hb hr hQ rfl (by (try dsimp only); exact (by first | decide | exact Or.inl hw | omega)) hP hD hK hS dX5_isNumber_40 hlocks
  · have kc_1 : (σ.1 34).toInt = 261 := by have h9 := c_1; simp only [ge_iff_le, gt_iff_lt, x_lt, x_le, x_eq, ne_eq, Int32.not_lt, Int32.not_le] at h9; simp only [Int32.reduceToInt] at h9; omega
    refine lv_aload_n hx hb dX5_isNumber_10 rfl (lv_at hl 0 rfl) ?_
    refine lv_iconst (v := 1) hx hb dX5_isNumber_11 (by decide) ?_
    refine lv_iconst (v := 4) hx hb dX5_isNumber_12 (by decide) ?_
    refine x_calliW (va_runV (As := [.int 1, .int 4]) (rest := []) ⟨hx, hb, hml, hown, hts⟩ (z_refuseWithin l D y H.size ad σ 1 4) (cwV 2 hts g_z_isNumber_1 rfl rfl rfl (by decide +kernel) ⟨Nat.le_of_ble_eq_true rfl, Nat.le_of_ble_eq_true rfl⟩) (x_preV (q := (RX5, TX5, 8)) hK hP hD (ci := 4) (q0 := 0) rfl prw_o0) rfl rfl hl.1 rfl (lv_room (Nat.le_of_ble_eq_true rfl)) dX5_isNumber_13 ⟨Nat.le_of_ble_eq_true rfl, Nat.le_of_ble_eq_true rfl⟩) hP hD hS hA (fun r_7 u H locs hw hP hD hS => ?_)
    obtain ⟨n_8, n_9⟩ := u
    try dsimp only at hw
    have hP : va_P D vwCl (prw y ad (sI (sI σ 36 n_8) 37 n_9)) H := hP
    have hD : va_D A (prw y ad (sI (sI σ 36 n_8) 37 n_9)) := hD
    replace hw : r_7.toInt = 0 := hw
    exact x_zretW (v := r_7) (u := (n_8, n_9)) hx hb hr hQ (x_01 (by first | exact hw | exact Or.inl hw | omega)) (by (try dsimp only); exact (by first | decide | exact Or.inl hw | omega)) hP hD hK hS dX5_isNumber_16 hlocks

def v_z_openWith : List Cond := .code yX5_openWith cX5_openWith 2 (some .boolean) :: ([.fieldLink RX5 45 "SlopeRunner$Parser" "kind" "I", .fieldLink RX5 48 "SlopeRunner$Parser" "open" "I"] ++ ((wsV RX5 86 RX5 yX5_pass v_z_pass) ++ ((wsV RX5 61 RX5 yX5_refuse v_z_refuse) ++ wsX50)))
theorem g_z_openWith_0 : GoodIn v_z_openWith (wsV RX5 86 RX5 yX5_pass v_z_pass) := goodIn_sub (fun w h => List.mem_cons_of_mem _ (List.mem_append_right _ (List.mem_append_left _ h))) (by decide +kernel)
theorem g_z_openWith_1 : GoodIn v_z_openWith (wsV RX5 61 RX5 yX5_refuse v_z_refuse) := goodIn_sub (fun w h => List.mem_cons_of_mem _ (List.mem_append_right _ (List.mem_append_right _ (List.mem_append_left _ h)))) (by decide +kernel)
set_option maxHeartbeats 4000000 in
set_option maxRecDepth 100000 in
theorem z_openWith (l : Launch) (D : va_G) (y : Nat → ClassId) (sz : Nat) (ad : Nat → Nat) (σ : OS) (q : Int32) (htcount0 : 0 ≤ (σ.1 45).toInt) (htcount1 : (σ.1 45).toInt ≤ 700) (hopen0 : 0 ≤ (σ.1 35).toInt) (hopen1 : (σ.1 35).toInt ≤ 8) : Met l yX5_openWith v_z_openWith ({ frames := 2, cells := 0, slots := 0, locals := 41 } : Room) (va_Pc [.ref (ad 30), .int q] (xPre D (xT y) (prw y ad σ) sz)) (va_Qi (fun (r : Int32) (u : Int32 × Int32 × Int32 × Int32 × Int32) => (r.toInt = 1 ∧ u.2.2.1.toInt = (σ.1 35).toInt + 1 ∧ u.2.2.1.toInt ≤ 8) ∨ (r.toInt = 0 ∧ u.2.2.1 = σ.1 35)) (fun (u : Int32 × Int32 × Int32 × Int32 × Int32) => xB D (xT y) (va_A (prw y ad σ) sz) (prw y ad (sI (sI (sI (sI (sI σ 33 u.1) 34 u.2.1) 35 u.2.2.1) 36 u.2.2.2.1) 37 u.2.2.2.2))) (va_A (prw y ad σ) sz)) 0 0 (va_A (prw y ad σ) sz) := by
  refine x_meti (cc := cX5_openWith) (maxL := 2) (by decide) rfl (Nat.le_of_ble_eq_true rfl) ?_
  intro p e s m below meth c A H locs Q hx hb hml hown hts hr hlocks hmn hA hP hK hD hS ls hl hQ
  have hl : lv_has ls 2 [(0, .ref (ad 30)), (1, .int q)] := hl
  have fl45 := hts (.fieldLink RX5 45 "SlopeRunner$Parser" "kind" "I") (List.mem_of_getElem? (i := 1) rfl)
  have inX5 : ∀ w ∈ wsX50, w ∈ v_z_openWith := (fun w h => List.mem_cons_of_mem _ (List.mem_append_right _ (List.mem_append_right _ (List.mem_append_right _ h))))
  have fl48 := hts (.fieldLink RX5 48 "SlopeRunner$Parser" "open" "I") (List.mem_of_getElem? (i := 2) rfl)
  have kk_8 : (8 : Int32).toInt = 8 := rfl
  have kk_1 : (1 : Int32).toInt = 1 := rfl
  have kk_4 : (4 : Int32).toInt = 4 := rfl
  refine lv_aload_n hx hb dX5_openWith_0 rfl (lv_at hl 0 rfl) ?_
  refine va_get (D := D) (ci := 4) (v := .int (σ.1 34)) (C := RX5) (T := TX5) (N := 8) hx hb hts inX5 hown hK hP 0 prw_o0 rfl 3 (by decide) fl45 (fun _ h9 => h9) rfl dX5_openWith_1 ?_
  refine lv_iload_n hx hb dX5_openWith_4 rfl (lv_at hl 1 rfl) ?_
  refine lv_icmp_eq (tgt := 14) hx hb dX5_openWith_5 (by decide) (fun c_1 => ?_) (fun c_1 => ?_)
  · have kc_1 : (σ.1 34).toInt = q.toInt := by have h9 := c_1; simp only [ge_iff_le, gt_iff_lt, x_lt, x_le, x_eq, ne_eq, Int32.not_lt, Int32.not_le] at h9; omega
    refine lv_aload_n hx hb dX5_openWith_14 rfl (lv_at hl 0 rfl) ?_
    refine va_get (D := D) (ci := 4) (v := .int (σ.1 35)) (C := RX5) (T := TX5) (N := 8) hx hb hts inX5 hown hK hP 0 prw_o0 rfl 4 (by decide) fl48 (fun _ h9 => h9) rfl dX5_openWith_15 ?_
    refine lv_bipush (v := 8) hx hb dX5_openWith_18 (by decide) ?_
    refine lv_icmp_lt (tgt := 29) hx hb dX5_openWith_20 (by decide) (fun c_2 => ?_) (fun c_2 => ?_)
    · have kc_2 : (σ.1 35).toInt < 8 := by have h9 := c_2; simp only [ge_iff_le, gt_iff_lt, x_lt, x_le, x_eq, ne_eq, Int32.not_lt, Int32.not_le] at h9; simp only [Int32.reduceToInt] at h9; omega
      refine lv_aload_n hx hb dX5_openWith_29 rfl (lv_at hl 0 rfl) ?_
      refine lv_dup hx hb dX5_openWith_30 rfl ?_
      refine va_get (D := D) (ci := 4) (v := .int (σ.1 35)) (C := RX5) (T := TX5) (N := 8) hx hb hts inX5 hown hK hP 0 prw_o0 rfl 4 (by decide) fl48 (fun _ h9 => h9) rfl dX5_openWith_31 ?_
      refine lv_iconst (v := 1) hx hb dX5_openWith_34 (by decide) ?_
      refine lv_iadd hx hb dX5_openWith_35 ?_
      refine lv_topi (fun i_3 ei_3 => ?_)
      have vi_3 : i_3.toInt = (σ.1 35).toInt + 1 := by have h9 := x_add ei_3 (by omega) (by omega); omega
      refine va_put (D := D) (ci := 4) (v := .int i_3) (ty := .int) (C := RX5) (T := TX5) (N := 8) hx hb hts inX5 tyX5 tyX5_ok nmX5 hown hK hP hD hS 0 prw_o0 rfl 4 (by decide) fl48 (fun _ h9 => h9) rfl (by decide +kernel) rfl rfl (Nat.le_of_ble_eq_true rfl) dX5_openWith_36 (fun H locs hP hD hS => ?_)
      have hP : va_P D vwCl (prw y ad (sI σ 35 i_3)) H := x_trP hP prw_p0_4
      have hD : va_D A (prw y ad (sI σ 35 i_3)) := x_trD hD prw_p0_4
      refine lv_aload_n hx hb dX5_openWith_39 rfl (lv_at hl 0 rfl) ?_
      refine x_callvW (va_runV (As := []) (rest := []) ⟨hx, hb, hml, hown, hts⟩ (z_pass l D y H.size ad (sI σ 35 i_3) (show 0 ≤ ((σ.1 45)).toInt from by first | omega | decide) (show ((σ.1 45)).toInt ≤ 700 from by first | omega | decide)) (cwV 0 hts g_z_openWith_0 rfl rfl rfl (by decide +kernel) ⟨Nat.le_of_ble_eq_true rfl, Nat.le_of_ble_eq_true rfl⟩) (x_preV (q := (RX5, TX5, 8)) hK hP hD (ci := 4) (q0 := 0) rfl prw_o0) rfl rfl hl.1 rfl (lv_room (Nat.le_of_ble_eq_true rfl)) dX5_openWith_40 ⟨Nat.le_of_ble_eq_true rfl, Nat.le_of_ble_eq_true rfl⟩) hP hD hS hA (fun u H locs hw hP hD hS => ?_)
      obtain ⟨n_4, n_5⟩ := u
      try dsimp only at hw
      have hP : va_P D vwCl (prw y ad (sI (sI (sI σ 35 i_3) 33 n_4) 34 n_5)) H := hP
      have hD : va_D A (prw y ad (sI (sI (sI σ 35 i_3) 33 n_4) 34 n_5)) := hD
      replace hw : True := hw
      refine lv_iconst (v := 1) hx hb dX5_openWith_43 (by decide) ?_
      have hP : va_P D vwCl (prw y ad (sI (sI (sI (sI (sI σ 33 n_4) 34 n_5) 35 i_3) 36 (σ.1 36)) 37 (σ.1 37))) H := hP
      have hD : va_D A (prw y ad (sI (sI (sI (sI (sI σ 33 n_4) 34 n_5) 35 i_3) 36 (σ.1 36)) 37 (σ.1 37))) := hD
      exact x_zretW (v := 1) (u := (n_4, n_5, i_3, (σ.1 36), (σ.1 37))) hx hb hr hQ rfl (by (try dsimp only); exact (by first | exact Or.inl ⟨rfl, by omega, by omega⟩ | exact Or.inr ⟨by first | rfl | exact hw, rfl⟩)) hP hD hK hS dX5_openWith_44 hlocks
    · have kc_2 : (σ.1 35).toInt ≥ 8 := by have h9 := c_2; simp only [ge_iff_le, gt_iff_lt, x_lt, x_le, x_eq, ne_eq, Int32.not_lt, Int32.not_le] at h9; simp only [Int32.reduceToInt] at h9; omega
      refine lv_aload_n hx hb dX5_openWith_23 rfl (lv_at hl 0 rfl) ?_
      refine lv_iconst (v := 4) hx hb dX5_openWith_24 (by decide) ?_
      refine x_calliW (va_runV (As := [.int 4]) (rest := []) ⟨hx, hb, hml, hown, hts⟩ (z_refuse l D y H.size ad σ 4) (cwV 1 hts g_z_openWith_1 rfl rfl rfl (by decide +kernel) ⟨Nat.le_of_ble_eq_true rfl, Nat.le_of_ble_eq_true rfl⟩) (x_preV (q := (RX5, TX5, 8)) hK hP hD (ci := 4) (q0 := 0) rfl prw_o0) rfl rfl hl.1 rfl (lv_room (Nat.le_of_ble_eq_true rfl)) dX5_openWith_25 ⟨Nat.le_of_ble_eq_true rfl, Nat.le_of_ble_eq_true rfl⟩) hP hD hS hA (fun r_6 u H locs hw hP hD hS => ?_)
      obtain ⟨n_7, n_8⟩ := u
      try dsimp only at hw
      have hP : va_P D vwCl (prw y ad (sI (sI σ 36 n_7) 37 n_8)) H := hP
      have hD : va_D A (prw y ad (sI (sI σ 36 n_7) 37 n_8)) := hD
      replace hw : r_6.toInt = 0 := hw
      have hP : va_P D vwCl (prw y ad (sI (sI (sI (sI (sI σ 33 (σ.1 33)) 34 (σ.1 34)) 35 (σ.1 35)) 36 n_7) 37 n_8)) H := hP
      have hD : va_D A (prw y ad (sI (sI (sI (sI (sI σ 33 (σ.1 33)) 34 (σ.1 34)) 35 (σ.1 35)) 36 n_7) 37 n_8)) := hD
      exact x_zretW (v := r_6) (u := ((σ.1 33), (σ.1 34), (σ.1 35), n_7, n_8)) hx hb hr hQ (x_01 (by first | exact hw | exact Or.inl hw | omega)) (by (try dsimp only); exact (by first | exact Or.inl ⟨rfl, by omega, by omega⟩ | exact Or.inr ⟨by first | rfl | exact hw, rfl⟩)) hP hD hK hS dX5_openWith_28 hlocks
  · have kc_1 : (σ.1 34).toInt ≠ q.toInt := by have h9 := c_1; simp only [ge_iff_le, gt_iff_lt, x_lt, x_le, x_eq, ne_eq, Int32.not_lt, Int32.not_le] at h9; omega
    refine lv_aload_n hx hb dX5_openWith_8 rfl (lv_at hl 0 rfl) ?_
    refine lv_iconst (v := 1) hx hb dX5_openWith_9 (by decide) ?_
    refine x_calliW (va_runV (As := [.int 1]) (rest := []) ⟨hx, hb, hml, hown, hts⟩ (z_refuse l D y H.size ad σ 1) (cwV 1 hts g_z_openWith_1 rfl rfl rfl (by decide +kernel) ⟨Nat.le_of_ble_eq_true rfl, Nat.le_of_ble_eq_true rfl⟩) (x_preV (q := (RX5, TX5, 8)) hK hP hD (ci := 4) (q0 := 0) rfl prw_o0) rfl rfl hl.1 rfl (lv_room (Nat.le_of_ble_eq_true rfl)) dX5_openWith_10 ⟨Nat.le_of_ble_eq_true rfl, Nat.le_of_ble_eq_true rfl⟩) hP hD hS hA (fun r_9 u H locs hw hP hD hS => ?_)
    obtain ⟨n_10, n_11⟩ := u
    try dsimp only at hw
    have hP : va_P D vwCl (prw y ad (sI (sI σ 36 n_10) 37 n_11)) H := hP
    have hD : va_D A (prw y ad (sI (sI σ 36 n_10) 37 n_11)) := hD
    replace hw : r_9.toInt = 0 := hw
    have hP : va_P D vwCl (prw y ad (sI (sI (sI (sI (sI σ 33 (σ.1 33)) 34 (σ.1 34)) 35 (σ.1 35)) 36 n_10) 37 n_11)) H := hP
    have hD : va_D A (prw y ad (sI (sI (sI (sI (sI σ 33 (σ.1 33)) 34 (σ.1 34)) 35 (σ.1 35)) 36 n_10) 37 n_11)) := hD
    exact x_zretW (v := r_9) (u := ((σ.1 33), (σ.1 34), (σ.1 35), n_10, n_11)) hx hb hr hQ (x_01 (by first | exact hw | exact Or.inl hw | omega)) (by (try dsimp only); exact (by first | exact Or.inl ⟨rfl, by omega, by omega⟩ | exact Or.inr ⟨by first | rfl | exact hw, rfl⟩)) hP hD hK hS dX5_openWith_13 hlocks

def v_z_closeWith : List Cond := .code yX5_closeWith cX5_closeWith 2 (some .boolean) :: ([.fieldLink RX5 45 "SlopeRunner$Parser" "kind" "I", .fieldLink RX5 48 "SlopeRunner$Parser" "open" "I"] ++ ((wsV RX5 86 RX5 yX5_pass v_z_pass) ++ ((wsV RX5 61 RX5 yX5_refuse v_z_refuse) ++ wsX50)))
theorem g_z_closeWith_0 : GoodIn v_z_closeWith (wsV RX5 86 RX5 yX5_pass v_z_pass) := goodIn_sub (fun w h => List.mem_cons_of_mem _ (List.mem_append_right _ (List.mem_append_left _ h))) (by decide +kernel)
theorem g_z_closeWith_1 : GoodIn v_z_closeWith (wsV RX5 61 RX5 yX5_refuse v_z_refuse) := goodIn_sub (fun w h => List.mem_cons_of_mem _ (List.mem_append_right _ (List.mem_append_right _ (List.mem_append_left _ h)))) (by decide +kernel)
set_option maxHeartbeats 4000000 in
set_option maxRecDepth 100000 in
theorem z_closeWith (l : Launch) (D : va_G) (y : Nat → ClassId) (sz : Nat) (ad : Nat → Nat) (σ : OS) (q : Int32) (htcount0 : 0 ≤ (σ.1 45).toInt) (htcount1 : (σ.1 45).toInt ≤ 700) (hop0 : 1 ≤ (σ.1 35).toInt) (hop1 : (σ.1 35).toInt ≤ 8) : Met l yX5_closeWith v_z_closeWith ({ frames := 2, cells := 0, slots := 0, locals := 41 } : Room) (va_Pc [.ref (ad 30), .int q] (xPre D (xT y) (prw y ad σ) sz)) (va_Qi (fun (r : Int32) (u : Int32 × Int32 × Int32 × Int32 × Int32) => (r.toInt = 1 ∧ u.2.2.1.toInt = (σ.1 35).toInt - 1) ∨ (r.toInt = 0 ∧ u.2.2.1 = σ.1 35)) (fun (u : Int32 × Int32 × Int32 × Int32 × Int32) => xB D (xT y) (va_A (prw y ad σ) sz) (prw y ad (sI (sI (sI (sI (sI σ 33 u.1) 34 u.2.1) 35 u.2.2.1) 36 u.2.2.2.1) 37 u.2.2.2.2))) (va_A (prw y ad σ) sz)) 0 0 (va_A (prw y ad σ) sz) := by
  refine x_meti (cc := cX5_closeWith) (maxL := 2) (by decide) rfl (Nat.le_of_ble_eq_true rfl) ?_
  intro p e s m below meth c A H locs Q hx hb hml hown hts hr hlocks hmn hA hP hK hD hS ls hl hQ
  have hl : lv_has ls 2 [(0, .ref (ad 30)), (1, .int q)] := hl
  have fl45 := hts (.fieldLink RX5 45 "SlopeRunner$Parser" "kind" "I") (List.mem_of_getElem? (i := 1) rfl)
  have inX5 : ∀ w ∈ wsX50, w ∈ v_z_closeWith := (fun w h => List.mem_cons_of_mem _ (List.mem_append_right _ (List.mem_append_right _ (List.mem_append_right _ h))))
  have fl48 := hts (.fieldLink RX5 48 "SlopeRunner$Parser" "open" "I") (List.mem_of_getElem? (i := 2) rfl)
  have kk_1 : (1 : Int32).toInt = 1 := rfl
  refine lv_aload_n hx hb dX5_closeWith_0 rfl (lv_at hl 0 rfl) ?_
  refine va_get (D := D) (ci := 4) (v := .int (σ.1 34)) (C := RX5) (T := TX5) (N := 8) hx hb hts inX5 hown hK hP 0 prw_o0 rfl 3 (by decide) fl45 (fun _ h9 => h9) rfl dX5_closeWith_1 ?_
  refine lv_iload_n hx hb dX5_closeWith_4 rfl (lv_at hl 1 rfl) ?_
  refine lv_icmp_eq (tgt := 14) hx hb dX5_closeWith_5 (by decide) (fun c_1 => ?_) (fun c_1 => ?_)
  · have kc_1 : (σ.1 34).toInt = q.toInt := by have h9 := c_1; simp only [ge_iff_le, gt_iff_lt, x_lt, x_le, x_eq, ne_eq, Int32.not_lt, Int32.not_le] at h9; omega
    refine lv_aload_n hx hb dX5_closeWith_14 rfl (lv_at hl 0 rfl) ?_
    refine lv_dup hx hb dX5_closeWith_15 rfl ?_
    refine va_get (D := D) (ci := 4) (v := .int (σ.1 35)) (C := RX5) (T := TX5) (N := 8) hx hb hts inX5 hown hK hP 0 prw_o0 rfl 4 (by decide) fl48 (fun _ h9 => h9) rfl dX5_closeWith_16 ?_
    refine lv_iconst (v := 1) hx hb dX5_closeWith_19 (by decide) ?_
    refine lv_isub hx hb dX5_closeWith_20 ?_
    refine lv_topi (fun i_2 ei_2 => ?_)
    have vi_2 : i_2.toInt = (σ.1 35).toInt - 1 := by have h9 := x_sub ei_2 (by omega) (by omega); omega
    refine va_put (D := D) (ci := 4) (v := .int i_2) (ty := .int) (C := RX5) (T := TX5) (N := 8) hx hb hts inX5 tyX5 tyX5_ok nmX5 hown hK hP hD hS 0 prw_o0 rfl 4 (by decide) fl48 (fun _ h9 => h9) rfl (by decide +kernel) rfl rfl (Nat.le_of_ble_eq_true rfl) dX5_closeWith_21 (fun H locs hP hD hS => ?_)
    have hP : va_P D vwCl (prw y ad (sI σ 35 i_2)) H := x_trP hP prw_p0_4
    have hD : va_D A (prw y ad (sI σ 35 i_2)) := x_trD hD prw_p0_4
    refine lv_aload_n hx hb dX5_closeWith_24 rfl (lv_at hl 0 rfl) ?_
    refine x_callvW (va_runV (As := []) (rest := []) ⟨hx, hb, hml, hown, hts⟩ (z_pass l D y H.size ad (sI σ 35 i_2) (show 0 ≤ ((σ.1 45)).toInt from by first | omega | decide) (show ((σ.1 45)).toInt ≤ 700 from by first | omega | decide)) (cwV 0 hts g_z_closeWith_0 rfl rfl rfl (by decide +kernel) ⟨Nat.le_of_ble_eq_true rfl, Nat.le_of_ble_eq_true rfl⟩) (x_preV (q := (RX5, TX5, 8)) hK hP hD (ci := 4) (q0 := 0) rfl prw_o0) rfl rfl hl.1 rfl (lv_room (Nat.le_of_ble_eq_true rfl)) dX5_closeWith_25 ⟨Nat.le_of_ble_eq_true rfl, Nat.le_of_ble_eq_true rfl⟩) hP hD hS hA (fun u H locs hw hP hD hS => ?_)
    obtain ⟨n_3, n_4⟩ := u
    try dsimp only at hw
    have hP : va_P D vwCl (prw y ad (sI (sI (sI σ 35 i_2) 33 n_3) 34 n_4)) H := hP
    have hD : va_D A (prw y ad (sI (sI (sI σ 35 i_2) 33 n_3) 34 n_4)) := hD
    replace hw : True := hw
    refine lv_iconst (v := 1) hx hb dX5_closeWith_28 (by decide) ?_
    have hP : va_P D vwCl (prw y ad (sI (sI (sI (sI (sI σ 33 n_3) 34 n_4) 35 i_2) 36 (σ.1 36)) 37 (σ.1 37))) H := hP
    have hD : va_D A (prw y ad (sI (sI (sI (sI (sI σ 33 n_3) 34 n_4) 35 i_2) 36 (σ.1 36)) 37 (σ.1 37))) := hD
    exact x_zretW (v := 1) (u := (n_3, n_4, i_2, (σ.1 36), (σ.1 37))) hx hb hr hQ rfl (by (try dsimp only); exact (by first | exact Or.inl ⟨rfl, by omega⟩ | exact Or.inr ⟨by first | rfl | exact hw, rfl⟩)) hP hD hK hS dX5_closeWith_29 hlocks
  · have kc_1 : (σ.1 34).toInt ≠ q.toInt := by have h9 := c_1; simp only [ge_iff_le, gt_iff_lt, x_lt, x_le, x_eq, ne_eq, Int32.not_lt, Int32.not_le] at h9; omega
    refine lv_aload_n hx hb dX5_closeWith_8 rfl (lv_at hl 0 rfl) ?_
    refine lv_iconst (v := 1) hx hb dX5_closeWith_9 (by decide) ?_
    refine x_calliW (va_runV (As := [.int 1]) (rest := []) ⟨hx, hb, hml, hown, hts⟩ (z_refuse l D y H.size ad σ 1) (cwV 1 hts g_z_closeWith_1 rfl rfl rfl (by decide +kernel) ⟨Nat.le_of_ble_eq_true rfl, Nat.le_of_ble_eq_true rfl⟩) (x_preV (q := (RX5, TX5, 8)) hK hP hD (ci := 4) (q0 := 0) rfl prw_o0) rfl rfl hl.1 rfl (lv_room (Nat.le_of_ble_eq_true rfl)) dX5_closeWith_10 ⟨Nat.le_of_ble_eq_true rfl, Nat.le_of_ble_eq_true rfl⟩) hP hD hS hA (fun r_5 u H locs hw hP hD hS => ?_)
    obtain ⟨n_6, n_7⟩ := u
    try dsimp only at hw
    have hP : va_P D vwCl (prw y ad (sI (sI σ 36 n_6) 37 n_7)) H := hP
    have hD : va_D A (prw y ad (sI (sI σ 36 n_6) 37 n_7)) := hD
    replace hw : r_5.toInt = 0 := hw
    have hP : va_P D vwCl (prw y ad (sI (sI (sI (sI (sI σ 33 (σ.1 33)) 34 (σ.1 34)) 35 (σ.1 35)) 36 n_6) 37 n_7)) H := hP
    have hD : va_D A (prw y ad (sI (sI (sI (sI (sI σ 33 (σ.1 33)) 34 (σ.1 34)) 35 (σ.1 35)) 36 n_6) 37 n_7)) := hD
    exact x_zretW (v := r_5) (u := ((σ.1 33), (σ.1 34), (σ.1 35), n_6, n_7)) hx hb hr hQ (x_01 (by first | exact hw | exact Or.inl hw | omega)) (by (try dsimp only); exact (by first | exact Or.inl ⟨rfl, by omega⟩ | exact Or.inr ⟨by first | rfl | exact hw, rfl⟩)) hP hD hK hS dX5_closeWith_13 hlocks

def v_z_expect : List Cond := .code yX5_expect cX5_expect 2 (some .boolean) :: ([.fieldLink RX5 45 "SlopeRunner$Parser" "kind" "I"] ++ ((wsV RX5 86 RX5 yX5_pass v_z_pass) ++ ((wsV RX5 61 RX5 yX5_refuse v_z_refuse) ++ wsX50)))
theorem g_z_expect_0 : GoodIn v_z_expect (wsV RX5 86 RX5 yX5_pass v_z_pass) := goodIn_sub (fun w h => List.mem_cons_of_mem _ (List.mem_append_right _ (List.mem_append_left _ h))) (by decide +kernel)
theorem g_z_expect_1 : GoodIn v_z_expect (wsV RX5 61 RX5 yX5_refuse v_z_refuse) := goodIn_sub (fun w h => List.mem_cons_of_mem _ (List.mem_append_right _ (List.mem_append_right _ (List.mem_append_left _ h)))) (by decide +kernel)
set_option maxHeartbeats 4000000 in
set_option maxRecDepth 100000 in
theorem z_expect (l : Launch) (D : va_G) (y : Nat → ClassId) (sz : Nat) (ad : Nat → Nat) (σ : OS) (q : Int32) (htcount0 : 0 ≤ (σ.1 45).toInt) (htcount1 : (σ.1 45).toInt ≤ 700) : Met l yX5_expect v_z_expect ({ frames := 2, cells := 0, slots := 0, locals := 41 } : Room) (va_Pc [.ref (ad 30), .int q] (xPre D (xT y) (prw y ad σ) sz)) (va_Qi (fun (r : Int32) (u : Int32 × Int32 × Int32 × Int32) => r.toInt = 0 ∨ r.toInt = 1) (fun (u : Int32 × Int32 × Int32 × Int32) => xB D (xT y) (va_A (prw y ad σ) sz) (prw y ad (sI (sI (sI (sI σ 33 u.1) 34 u.2.1) 36 u.2.2.1) 37 u.2.2.2))) (va_A (prw y ad σ) sz)) 0 0 (va_A (prw y ad σ) sz) := by
  refine x_meti (cc := cX5_expect) (maxL := 2) (by decide) rfl (Nat.le_of_ble_eq_true rfl) ?_
  intro p e s m below meth c A H locs Q hx hb hml hown hts hr hlocks hmn hA hP hK hD hS ls hl hQ
  have hl : lv_has ls 2 [(0, .ref (ad 30)), (1, .int q)] := hl
  have fl45 := hts (.fieldLink RX5 45 "SlopeRunner$Parser" "kind" "I") (List.mem_of_getElem? (i := 1) rfl)
  have inX5 : ∀ w ∈ wsX50, w ∈ v_z_expect := (fun w h => List.mem_cons_of_mem _ (List.mem_append_right _ (List.mem_append_right _ (List.mem_append_right _ h))))
  have kk_1 : (1 : Int32).toInt = 1 := rfl
  refine lv_aload_n hx hb dX5_expect_0 rfl (lv_at hl 0 rfl) ?_
  refine va_get (D := D) (ci := 4) (v := .int (σ.1 34)) (C := RX5) (T := TX5) (N := 8) hx hb hts inX5 hown hK hP 0 prw_o0 rfl 3 (by decide) fl45 (fun _ h9 => h9) rfl dX5_expect_1 ?_
  refine lv_iload_n hx hb dX5_expect_4 rfl (lv_at hl 1 rfl) ?_
  refine lv_icmp_eq (tgt := 14) hx hb dX5_expect_5 (by decide) (fun c_1 => ?_) (fun c_1 => ?_)
  · have kc_1 : (σ.1 34).toInt = q.toInt := by have h9 := c_1; simp only [ge_iff_le, gt_iff_lt, x_lt, x_le, x_eq, ne_eq, Int32.not_lt, Int32.not_le] at h9; omega
    refine lv_aload_n hx hb dX5_expect_14 rfl (lv_at hl 0 rfl) ?_
    refine x_callvW (va_runV (As := []) (rest := []) ⟨hx, hb, hml, hown, hts⟩ (z_pass l D y H.size ad σ (show 0 ≤ ((σ.1 45)).toInt from by first | omega | decide) (show ((σ.1 45)).toInt ≤ 700 from by first | omega | decide)) (cwV 0 hts g_z_expect_0 rfl rfl rfl (by decide +kernel) ⟨Nat.le_of_ble_eq_true rfl, Nat.le_of_ble_eq_true rfl⟩) (x_preV (q := (RX5, TX5, 8)) hK hP hD (ci := 4) (q0 := 0) rfl prw_o0) rfl rfl hl.1 rfl (lv_room (Nat.le_of_ble_eq_true rfl)) dX5_expect_15 ⟨Nat.le_of_ble_eq_true rfl, Nat.le_of_ble_eq_true rfl⟩) hP hD hS hA (fun u H locs hw hP hD hS => ?_)
    obtain ⟨n_2, n_3⟩ := u
    try dsimp only at hw
    have hP : va_P D vwCl (prw y ad (sI (sI σ 33 n_2) 34 n_3)) H := hP
    have hD : va_D A (prw y ad (sI (sI σ 33 n_2) 34 n_3)) := hD
    replace hw : True := hw
    refine lv_iconst (v := 1) hx hb dX5_expect_18 (by decide) ?_
    have hP : va_P D vwCl (prw y ad (sI (sI (sI (sI σ 33 n_2) 34 n_3) 36 (σ.1 36)) 37 (σ.1 37))) H := hP
    have hD : va_D A (prw y ad (sI (sI (sI (sI σ 33 n_2) 34 n_3) 36 (σ.1 36)) 37 (σ.1 37))) := hD
    exact x_zretW (v := 1) (u := (n_2, n_3, (σ.1 36), (σ.1 37))) hx hb hr hQ rfl (by (try dsimp only); exact (by first | decide | exact Or.inl hw | omega)) hP hD hK hS dX5_expect_19 hlocks
  · have kc_1 : (σ.1 34).toInt ≠ q.toInt := by have h9 := c_1; simp only [ge_iff_le, gt_iff_lt, x_lt, x_le, x_eq, ne_eq, Int32.not_lt, Int32.not_le] at h9; omega
    refine lv_aload_n hx hb dX5_expect_8 rfl (lv_at hl 0 rfl) ?_
    refine lv_iconst (v := 1) hx hb dX5_expect_9 (by decide) ?_
    refine x_calliW (va_runV (As := [.int 1]) (rest := []) ⟨hx, hb, hml, hown, hts⟩ (z_refuse l D y H.size ad σ 1) (cwV 1 hts g_z_expect_1 rfl rfl rfl (by decide +kernel) ⟨Nat.le_of_ble_eq_true rfl, Nat.le_of_ble_eq_true rfl⟩) (x_preV (q := (RX5, TX5, 8)) hK hP hD (ci := 4) (q0 := 0) rfl prw_o0) rfl rfl hl.1 rfl (lv_room (Nat.le_of_ble_eq_true rfl)) dX5_expect_10 ⟨Nat.le_of_ble_eq_true rfl, Nat.le_of_ble_eq_true rfl⟩) hP hD hS hA (fun r_4 u H locs hw hP hD hS => ?_)
    obtain ⟨n_5, n_6⟩ := u
    try dsimp only at hw
    have hP : va_P D vwCl (prw y ad (sI (sI σ 36 n_5) 37 n_6)) H := hP
    have hD : va_D A (prw y ad (sI (sI σ 36 n_5) 37 n_6)) := hD
    replace hw : r_4.toInt = 0 := hw
    have hP : va_P D vwCl (prw y ad (sI (sI (sI (sI σ 33 (σ.1 33)) 34 (σ.1 34)) 36 n_5) 37 n_6)) H := hP
    have hD : va_D A (prw y ad (sI (sI (sI (sI σ 33 (σ.1 33)) 34 (σ.1 34)) 36 n_5) 37 n_6)) := hD
    exact x_zretW (v := r_4) (u := ((σ.1 33), (σ.1 34), n_5, n_6)) hx hb hr hQ (x_01 (by first | exact hw | exact Or.inl hw | omega)) (by (try dsimp only); exact (by first | decide | exact Or.inl hw | omega)) hP hD hK hS dX5_expect_13 hlocks

def v_z_kindOfSign : List Cond := .code yX5_kindOfSign cX5_kindOfSign 1 (some .int) :: ([.fieldLink RX5 45 "SlopeRunner$Parser" "kind" "I"] ++ wsX50)
set_option maxHeartbeats 4000000 in
set_option maxRecDepth 100000 in
theorem z_kindOfSign (l : Launch) (D : va_G) (y : Nat → ClassId) (sz : Nat) (ad : Nat → Nat) (σ : OS)  : Met l yX5_kindOfSign v_z_kindOfSign ({ frames := 0, cells := 0, slots := 0, locals := 0 } : Room) (va_Pc [.ref (ad 30)] (xPre D (xT y) (prw y ad σ) sz)) (va_Qi (fun (r : Int32) (_ : Unit) => True) (fun (u : Unit) => xB D (xT y) (va_A (prw y ad σ) sz) (prw y ad σ)) (va_A (prw y ad σ) sz)) 0 0 (va_A (prw y ad σ) sz) := by
  refine x_meti (cc := cX5_kindOfSign) (maxL := 1) (by decide) rfl (Nat.le_of_ble_eq_true rfl) ?_
  intro p e s m below meth c A H locs Q hx hb hml hown hts hr hlocks hmn hA hP hK hD hS ls hl hQ
  have hl : lv_has ls 1 [(0, .ref (ad 30))] := hl
  have fl45 := hts (.fieldLink RX5 45 "SlopeRunner$Parser" "kind" "I") (List.mem_of_getElem? (i := 1) rfl)
  have inX5 : ∀ w ∈ wsX50, w ∈ v_z_kindOfSign := (fun w h => List.mem_cons_of_mem _ (List.mem_append_right _ h))
  have kk_13 : (13 : Int32).toInt = 13 := rfl
  have kk_15 : (15 : Int32).toInt = 15 := rfl
  have kk_14 : (14 : Int32).toInt = 14 := rfl
  have kk_m1 : ((-1) : Int32).toInt = -1 := rfl
  refine lv_aload_n hx hb dX5_kindOfSign_0 rfl (lv_at hl 0 rfl) ?_
  refine va_get (D := D) (ci := 4) (v := .int (σ.1 34)) (C := RX5) (T := TX5) (N := 8) hx hb hts inX5 hown hK hP 0 prw_o0 rfl 3 (by decide) fl45 (fun _ h9 => h9) rfl dX5_kindOfSign_1 ?_
  refine lv_topi (fun i_1 ei_1 => ?_)
  rcases (show i_1 = 60 ∨ i_1 = 61 ∨ i_1 = 62 ∨ (i_1.toInt < 60 ∨ 62 < i_1.toInt) by simp only [x_eq, Int32.reduceToInt]; omega) with rfl | rfl | rfl | g_2
  · refine lv_tableIn (tgt := 32) hx hb dX5_kindOfSign_4 (by decide) (by decide) rfl (by decide) ?_
    refine lv_bipush (v := 13) hx hb dX5_kindOfSign_32 (by decide) ?_
    exact x_iretW (v := 13) (u := ()) hx hb hr hQ trivial hP hD hK hS dX5_kindOfSign_34 hlocks
  · refine lv_tableIn (tgt := 38) hx hb dX5_kindOfSign_4 (by decide) (by decide) rfl (by decide) ?_
    refine lv_bipush (v := 15) hx hb dX5_kindOfSign_38 (by decide) ?_
    exact x_iretW (v := 15) (u := ()) hx hb hr hQ trivial hP hD hK hS dX5_kindOfSign_40 hlocks
  · refine lv_tableIn (tgt := 35) hx hb dX5_kindOfSign_4 (by decide) (by decide) rfl (by decide) ?_
    refine lv_bipush (v := 14) hx hb dX5_kindOfSign_35 (by decide) ?_
    exact x_iretW (v := 14) (u := ()) hx hb hr hQ trivial hP hD hK hS dX5_kindOfSign_37 hlocks
  · refine lv_tableOut (tgt := 41) hx hb dX5_kindOfSign_4 g_2 (by decide) ?_
    refine lv_iconst (v := (-1)) hx hb dX5_kindOfSign_41 (by decide) ?_
    exact x_iretW (v := (-1)) (u := ()) hx hb hr hQ trivial hP hD hK hS dX5_kindOfSign_42 hlocks

def v_z_isFull : List Cond := .code yX5_isFull cX5_isFull 2 (some .boolean) :: ([.fieldLink RX5 34 "SlopeRunner$Parser" "into" "LSlopeRunner$Program;", .fieldLink RX5 104 "SlopeRunner$Program" "inputs" "I", .fieldLink RX5 107 "SlopeRunner$Program" "rows" "I", .fieldLink RX5 110 "SlopeRunner$Program" "vars" "I"] ++ (wsX50 ++ wsX60))
set_option maxHeartbeats 4000000 in
set_option maxRecDepth 100000 in
theorem z_isFull (l : Launch) (D : va_G) (y : Nat → ClassId) (sz : Nat) (ad : Nat → Nat) (σ : OS) (q : Int32) : Met l yX5_isFull v_z_isFull ({ frames := 0, cells := 0, slots := 0, locals := 0 } : Room) (va_Pc [.ref (ad 30), .int q] (xPre D (xT y) (prw y ad σ) sz)) (va_Qi (fun (r : Int32) (_ : Unit) => r.toInt = 1 ∨ (r.toInt = 0 ∧ (q.toInt ≠ 262 ∨ (σ.1 61).toInt ≤ 7) ∧ (q.toInt ≠ 263 ∨ (σ.1 62).toInt ≤ 3))) (fun (u : Unit) => xB D (xT y) (va_A (prw y ad σ) sz) (prw y ad σ)) (va_A (prw y ad σ) sz)) 0 0 (va_A (prw y ad σ) sz) := by
  refine x_meti (cc := cX5_isFull) (maxL := 2) (by decide) rfl (Nat.le_of_ble_eq_true rfl) ?_
  intro p e s m below meth c A H locs Q hx hb hml hown hts hr hlocks hmn hA hP hK hD hS ls hl hQ
  have hl : lv_has ls 2 [(0, .ref (ad 30)), (1, .int q)] := hl
  have fl34 := hts (.fieldLink RX5 34 "SlopeRunner$Parser" "into" "LSlopeRunner$Program;") (List.mem_of_getElem? (i := 1) rfl)
  have inX5 : ∀ w ∈ wsX50, w ∈ v_z_isFull := (fun w h => List.mem_cons_of_mem _ (List.mem_append_right _ (List.mem_append_left _ h)))
  have fl104 := hts (.fieldLink RX5 104 "SlopeRunner$Program" "inputs" "I") (List.mem_of_getElem? (i := 2) rfl)
  have inX6 : ∀ w ∈ wsX60, w ∈ v_z_isFull := (fun w h => List.mem_cons_of_mem _ (List.mem_append_right _ (List.mem_append_right _ h)))
  have kk_8 : (8 : Int32).toInt = 8 := rfl
  have kk_0 : (0 : Int32).toInt = 0 := rfl
  have kk_1 : (1 : Int32).toInt = 1 := rfl
  have fl107 := hts (.fieldLink RX5 107 "SlopeRunner$Program" "rows" "I") (List.mem_of_getElem? (i := 3) rfl)
  have kk_4 : (4 : Int32).toInt = 4 := rfl
  have fl110 := hts (.fieldLink RX5 110 "SlopeRunner$Program" "vars" "I") (List.mem_of_getElem? (i := 4) rfl)
  have kk_12 : (12 : Int32).toInt = 12 := rfl
  have l262 : (262 : Int32).toInt = 262 := rfl
  have l263 : (263 : Int32).toInt = 263 := rfl
  refine lv_iload_n hx hb dX5_isFull_0 rfl (lv_at hl 1 rfl) ?_
  rcases (show q = 262 ∨ q = 263 ∨ (¬ q = 262 ∧ ¬ q = 263) by simp only [x_eq, Int32.reduceToInt]; omega) with rfl | rfl | ⟨g_1_0, g_1_1⟩
  · refine lv_lookup (tgt := 28) (off := 27) hx hb dX5_isFull_1 (by decide) (by decide) (by decide) ?_
    refine lv_aload_n hx hb dX5_isFull_28 rfl (lv_at hl 0 rfl) ?_
    refine va_get (D := D) (ci := 4) (v := .ref (ad 60)) (C := RX5) (T := TX5) (N := 8) hx hb hts inX5 hown hK hP 0 prw_o0 rfl 1 (by decide) fl34 (fun _ h9 => h9) rfl dX5_isFull_29 ?_
    refine va_get (D := D) (ci := 5) (v := .int (σ.1 61)) (C := RX6) (T := TX6) (N := 13) hx hb hts inX6 hown hK hP 2 prw_o2 rfl 0 (by decide) fl104 (fun _ h9 => h9) rfl dX5_isFull_32 ?_
    refine lv_bipush (v := 8) hx hb dX5_isFull_35 (by decide) ?_
    refine lv_icmp_lt (tgt := 44) hx hb dX5_isFull_37 (by decide) (fun c_2 => ?_) (fun c_2 => ?_)
    · have kc_2 : (σ.1 61).toInt < 8 := by have h9 := c_2; simp only [ge_iff_le, gt_iff_lt, x_lt, x_le, x_eq, ne_eq, Int32.not_lt, Int32.not_le] at h9; simp only [Int32.reduceToInt] at h9; omega
      refine lv_iconst (v := 0) hx hb dX5_isFull_44 (by decide) ?_
      exact x_zretW (v := 0) (u := ()) hx hb hr hQ rfl (by first | omega | exact Or.inr ⟨rfl, Or.inl (fun h9 => g_1_0 (Int32.toInt_inj.mp (h9.trans l262.symm))), Or.inl (fun h9 => g_1_1 (Int32.toInt_inj.mp (h9.trans l263.symm)))⟩) hP hD hK hS dX5_isFull_45 hlocks
    · have kc_2 : (σ.1 61).toInt ≥ 8 := by have h9 := c_2; simp only [ge_iff_le, gt_iff_lt, x_lt, x_le, x_eq, ne_eq, Int32.not_lt, Int32.not_le] at h9; simp only [Int32.reduceToInt] at h9; omega
      refine lv_iconst (v := 1) hx hb dX5_isFull_40 (by decide) ?_
      refine lv_goto (tgt := 45) hx hb dX5_isFull_41 (by decide) ?_
      exact x_zretW (v := 1) (u := ()) hx hb hr hQ rfl (by first | omega | exact Or.inr ⟨rfl, Or.inl (fun h9 => g_1_0 (Int32.toInt_inj.mp (h9.trans l262.symm))), Or.inl (fun h9 => g_1_1 (Int32.toInt_inj.mp (h9.trans l263.symm)))⟩) hP hD hK hS dX5_isFull_45 hlocks
  · refine lv_lookup (tgt := 46) (off := 45) hx hb dX5_isFull_1 (by decide) (by decide) (by decide) ?_
    refine lv_aload_n hx hb dX5_isFull_46 rfl (lv_at hl 0 rfl) ?_
    refine va_get (D := D) (ci := 4) (v := .ref (ad 60)) (C := RX5) (T := TX5) (N := 8) hx hb hts inX5 hown hK hP 0 prw_o0 rfl 1 (by decide) fl34 (fun _ h9 => h9) rfl dX5_isFull_47 ?_
    refine va_get (D := D) (ci := 5) (v := .int (σ.1 62)) (C := RX6) (T := TX6) (N := 13) hx hb hts inX6 hown hK hP 2 prw_o2 rfl 1 (by decide) fl107 (fun _ h9 => h9) rfl dX5_isFull_50 ?_
    refine lv_iconst (v := 4) hx hb dX5_isFull_53 (by decide) ?_
    refine lv_icmp_lt (tgt := 61) hx hb dX5_isFull_54 (by decide) (fun c_3 => ?_) (fun c_3 => ?_)
    · have kc_3 : (σ.1 62).toInt < 4 := by have h9 := c_3; simp only [ge_iff_le, gt_iff_lt, x_lt, x_le, x_eq, ne_eq, Int32.not_lt, Int32.not_le] at h9; simp only [Int32.reduceToInt] at h9; omega
      refine lv_iconst (v := 0) hx hb dX5_isFull_61 (by decide) ?_
      exact x_zretW (v := 0) (u := ()) hx hb hr hQ rfl (by first | omega | exact Or.inr ⟨rfl, Or.inl (fun h9 => g_1_0 (Int32.toInt_inj.mp (h9.trans l262.symm))), Or.inl (fun h9 => g_1_1 (Int32.toInt_inj.mp (h9.trans l263.symm)))⟩) hP hD hK hS dX5_isFull_62 hlocks
    · have kc_3 : (σ.1 62).toInt ≥ 4 := by have h9 := c_3; simp only [ge_iff_le, gt_iff_lt, x_lt, x_le, x_eq, ne_eq, Int32.not_lt, Int32.not_le] at h9; simp only [Int32.reduceToInt] at h9; omega
      refine lv_iconst (v := 1) hx hb dX5_isFull_57 (by decide) ?_
      refine lv_goto (tgt := 62) hx hb dX5_isFull_58 (by decide) ?_
      exact x_zretW (v := 1) (u := ()) hx hb hr hQ rfl (by first | omega | exact Or.inr ⟨rfl, Or.inl (fun h9 => g_1_0 (Int32.toInt_inj.mp (h9.trans l262.symm))), Or.inl (fun h9 => g_1_1 (Int32.toInt_inj.mp (h9.trans l263.symm)))⟩) hP hD hK hS dX5_isFull_62 hlocks
  · refine lv_lookup (tgt := 63) (off := 62) hx hb dX5_isFull_1 (by decide) ((lv_osw g_1_0 rfl).trans ((lv_osw g_1_1 rfl).trans rfl)) (by decide) ?_
    refine lv_aload_n hx hb dX5_isFull_63 rfl (lv_at hl 0 rfl) ?_
    refine va_get (D := D) (ci := 4) (v := .ref (ad 60)) (C := RX5) (T := TX5) (N := 8) hx hb hts inX5 hown hK hP 0 prw_o0 rfl 1 (by decide) fl34 (fun _ h9 => h9) rfl dX5_isFull_64 ?_
    refine va_get (D := D) (ci := 5) (v := .int (σ.1 63)) (C := RX6) (T := TX6) (N := 13) hx hb hts inX6 hown hK hP 2 prw_o2 rfl 2 (by decide) fl110 (fun _ h9 => h9) rfl dX5_isFull_67 ?_
    refine lv_bipush (v := 12) hx hb dX5_isFull_70 (by decide) ?_
    refine lv_icmp_lt (tgt := 79) hx hb dX5_isFull_72 (by decide) (fun c_4 => ?_) (fun c_4 => ?_)
    · have kc_4 : (σ.1 63).toInt < 12 := by have h9 := c_4; simp only [ge_iff_le, gt_iff_lt, x_lt, x_le, x_eq, ne_eq, Int32.not_lt, Int32.not_le] at h9; simp only [Int32.reduceToInt] at h9; omega
      refine lv_iconst (v := 0) hx hb dX5_isFull_79 (by decide) ?_
      exact x_zretW (v := 0) (u := ()) hx hb hr hQ rfl (by first | omega | exact Or.inr ⟨rfl, Or.inl (fun h9 => g_1_0 (Int32.toInt_inj.mp (h9.trans l262.symm))), Or.inl (fun h9 => g_1_1 (Int32.toInt_inj.mp (h9.trans l263.symm)))⟩) hP hD hK hS dX5_isFull_80 hlocks
    · have kc_4 : (σ.1 63).toInt ≥ 12 := by have h9 := c_4; simp only [ge_iff_le, gt_iff_lt, x_lt, x_le, x_eq, ne_eq, Int32.not_lt, Int32.not_le] at h9; simp only [Int32.reduceToInt] at h9; omega
      refine lv_iconst (v := 1) hx hb dX5_isFull_75 (by decide) ?_
      refine lv_goto (tgt := 80) hx hb dX5_isFull_76 (by decide) ?_
      exact x_zretW (v := 1) (u := ()) hx hb hr hQ rfl (by first | omega | exact Or.inr ⟨rfl, Or.inl (fun h9 => g_1_0 (Int32.toInt_inj.mp (h9.trans l262.symm))), Or.inl (fun h9 => g_1_1 (Int32.toInt_inj.mp (h9.trans l263.symm)))⟩) hP hD hK hS dX5_isFull_80 hlocks

def v_z_beginStatement : List Cond := .code yX5_beginStatement cX5_beginStatement 1 none :: ([.fieldLink RX5 34 "SlopeRunner$Parser" "into" "LSlopeRunner$Program;", .fieldLink RX5 65 "SlopeRunner$Program" "statements" "I"] ++ ((wsV RX5 86 RX5 yX5_pass v_z_pass) ++ (wsX50 ++ wsX60)))
theorem g_z_beginStatement_0 : GoodIn v_z_beginStatement (wsV RX5 86 RX5 yX5_pass v_z_pass) := goodIn_sub (fun w h => List.mem_cons_of_mem _ (List.mem_append_right _ (List.mem_append_left _ h))) (by decide +kernel)
set_option maxHeartbeats 4000000 in
set_option maxRecDepth 100000 in
theorem z_beginStatement (l : Launch) (D : va_G) (y : Nat → ClassId) (sz : Nat) (ad : Nat → Nat) (σ : OS) (htcount0 : 0 ≤ (σ.1 45).toInt) (htcount1 : (σ.1 45).toInt ≤ 700) : Met l yX5_beginStatement v_z_beginStatement ({ frames := 2, cells := 0, slots := 0, locals := 41 } : Room) (va_Pc [.ref (ad 30)] (xPre D (xT y) (prw y ad σ) sz)) (va_Qv (fun (u : Int32 × Int32 × Int32) => True) (fun (u : Int32 × Int32 × Int32) => xB D (xT y) (va_A (prw y ad σ) sz) (prw y ad (sI (sI (sI σ 64 u.1) 33 u.2.1) 34 u.2.2))) (va_A (prw y ad σ) sz)) 0 0 (va_A (prw y ad σ) sz) := by
  refine x_metv (cc := cX5_beginStatement) (maxL := 1) (by decide) rfl (Nat.le_of_ble_eq_true rfl) ?_
  intro p e s m below meth c A H locs Q hx hb hml hown hts hr hlocks hmn hA hP hK hD hS ls hl hQ
  have hl : lv_has ls 1 [(0, .ref (ad 30))] := hl
  have fl34 := hts (.fieldLink RX5 34 "SlopeRunner$Parser" "into" "LSlopeRunner$Program;") (List.mem_of_getElem? (i := 1) rfl)
  have inX5 : ∀ w ∈ wsX50, w ∈ v_z_beginStatement := (fun w h => List.mem_cons_of_mem _ (List.mem_append_right _ (List.mem_append_right _ (List.mem_append_left _ h))))
  have fl65 := hts (.fieldLink RX5 65 "SlopeRunner$Program" "statements" "I") (List.mem_of_getElem? (i := 2) rfl)
  have inX6 : ∀ w ∈ wsX60, w ∈ v_z_beginStatement := (fun w h => List.mem_cons_of_mem _ (List.mem_append_right _ (List.mem_append_right _ (List.mem_append_right _ h))))
  refine lv_aload_n hx hb dX5_beginStatement_0 rfl (lv_at hl 0 rfl) ?_
  refine va_get (D := D) (ci := 4) (v := .ref (ad 60)) (C := RX5) (T := TX5) (N := 8) hx hb hts inX5 hown hK hP 0 prw_o0 rfl 1 (by decide) fl34 (fun _ h9 => h9) rfl dX5_beginStatement_1 ?_
  refine lv_dup hx hb dX5_beginStatement_4 rfl ?_
  refine va_get (D := D) (ci := 5) (v := .int (σ.1 64)) (C := RX6) (T := TX6) (N := 13) hx hb hts inX6 hown hK hP 2 prw_o2 rfl 3 (by decide) fl65 (fun _ h9 => h9) rfl dX5_beginStatement_5 ?_
  refine lv_iconst (v := 1) hx hb dX5_beginStatement_8 (by decide) ?_
  refine lv_iadd hx hb dX5_beginStatement_9 ?_
  refine lv_topi (fun i_1 ei_1 => ?_)
  refine va_put (D := D) (ci := 5) (v := .int i_1) (ty := .int) (C := RX6) (T := TX6) (N := 13) hx hb hts inX6 tyX6 tyX6_ok nmX6 hown hK hP hD hS 2 prw_o2 rfl 3 (by decide) fl65 (fun _ h9 => h9) rfl (by decide +kernel) rfl rfl (Nat.le_of_ble_eq_true rfl) dX5_beginStatement_10 (fun H locs hP hD hS => ?_)
  have hP : va_P D vwCl (prw y ad (sI σ 64 i_1)) H := x_trP hP prw_p2_3
  have hD : va_D A (prw y ad (sI σ 64 i_1)) := x_trD hD prw_p2_3
  refine lv_aload_n hx hb dX5_beginStatement_13 rfl (lv_at hl 0 rfl) ?_
  refine x_callvW (va_runV (As := []) (rest := []) ⟨hx, hb, hml, hown, hts⟩ (z_pass l D y H.size ad (sI σ 64 i_1) (show 0 ≤ ((σ.1 45)).toInt from by first | omega | decide) (show ((σ.1 45)).toInt ≤ 700 from by first | omega | decide)) (cwV 0 hts g_z_beginStatement_0 rfl rfl rfl (by decide +kernel) ⟨Nat.le_of_ble_eq_true rfl, Nat.le_of_ble_eq_true rfl⟩) (x_preV (q := (RX5, TX5, 8)) hK hP hD (ci := 4) (q0 := 0) rfl prw_o0) rfl rfl hl.1 rfl (lv_room (Nat.le_of_ble_eq_true rfl)) dX5_beginStatement_14 ⟨Nat.le_of_ble_eq_true rfl, Nat.le_of_ble_eq_true rfl⟩) hP hD hS hA (fun u H locs hw hP hD hS => ?_)
  obtain ⟨n_2, n_3⟩ := u
  try dsimp only at hw
  have hP : va_P D vwCl (prw y ad (sI (sI (sI σ 64 i_1) 33 n_2) 34 n_3)) H := hP
  have hD : va_D A (prw y ad (sI (sI (sI σ 64 i_1) 33 n_2) 34 n_3)) := hD
  replace hw : True := hw
  exact x_vretW (u := (i_1, n_2, n_3)) hx hb hr hQ trivial hP hD hK hS dX5_beginStatement_17 hlocks

def v_z_newName : List Cond := .code yX5_newName cX5_newName 4 (some .boolean) :: ([.fieldLink RX5 12 "SlopeRunner$Parser" "tokens" "LSlopeRunner$Tokens;", .fieldLink RX5 38 "SlopeRunner$Parser" "at" "I", .fieldLink RX5 34 "SlopeRunner$Parser" "into" "LSlopeRunner$Program;"] ++ ((wsV RX5 113 RX5 yX5_isName v_z_isName) ++ ((wsV RX5 116 RX10 yX10_worthAt v_o1_worthAt) ++ ((wsV RX5 120 RX6 yX6_slotOf v_w_slotOf) ++ ((wsV RX5 124 RX6 yX6_addName v_w_addName) ++ ((wsV RX5 86 RX5 yX5_pass v_z_pass) ++ ((wsV RX5 61 RX5 yX5_refuse v_z_refuse) ++ wsX50)))))))
theorem g_z_newName_0 : GoodIn v_z_newName (wsV RX5 113 RX5 yX5_isName v_z_isName) := goodIn_sub (fun w h => List.mem_cons_of_mem _ (List.mem_append_right _ (List.mem_append_left _ h))) (by decide +kernel)
theorem g_z_newName_1 : GoodIn v_z_newName (wsV RX5 116 RX10 yX10_worthAt v_o1_worthAt) := goodIn_sub (fun w h => List.mem_cons_of_mem _ (List.mem_append_right _ (List.mem_append_right _ (List.mem_append_left _ h)))) (by decide +kernel)
theorem g_z_newName_2 : GoodIn v_z_newName (wsV RX5 120 RX6 yX6_slotOf v_w_slotOf) := goodIn_sub (fun w h => List.mem_cons_of_mem _ (List.mem_append_right _ (List.mem_append_right _ (List.mem_append_right _ (List.mem_append_left _ h))))) (by decide +kernel)
theorem g_z_newName_3 : GoodIn v_z_newName (wsV RX5 124 RX6 yX6_addName v_w_addName) := goodIn_sub (fun w h => List.mem_cons_of_mem _ (List.mem_append_right _ (List.mem_append_right _ (List.mem_append_right _ (List.mem_append_right _ (List.mem_append_left _ h)))))) (by decide +kernel)
theorem g_z_newName_4 : GoodIn v_z_newName (wsV RX5 86 RX5 yX5_pass v_z_pass) := goodIn_sub (fun w h => List.mem_cons_of_mem _ (List.mem_append_right _ (List.mem_append_right _ (List.mem_append_right _ (List.mem_append_right _ (List.mem_append_right _ (List.mem_append_left _ h))))))) (by decide +kernel)
theorem g_z_newName_5 : GoodIn v_z_newName (wsV RX5 61 RX5 yX5_refuse v_z_refuse) := goodIn_sub (fun w h => List.mem_cons_of_mem _ (List.mem_append_right _ (List.mem_append_right _ (List.mem_append_right _ (List.mem_append_right _ (List.mem_append_right _ (List.mem_append_right _ (List.mem_append_left _ h)))))))) (by decide +kernel)
set_option maxHeartbeats 4000000 in
set_option maxRecDepth 100000 in
theorem z_newName (l : Launch) (D : va_G) (y : Nat → ClassId) (sz : Nat) (ad : Nat → Nat) (σ : OS) (q : Int32) (hfi : q.toInt ≠ 262 ∨ (σ.1 61).toInt ≤ 7) (hfr : q.toInt ≠ 263 ∨ (σ.1 62).toInt ≤ 3) (htcount0 : 0 ≤ (σ.1 45).toInt) (htcount1 : (σ.1 45).toInt ≤ 700) (hinputs0 : 0 ≤ (σ.1 61).toInt) (hinputs1 : (σ.1 61).toInt ≤ 8) (hrows0 : 0 ≤ (σ.1 62).toInt) (hrows1 : (σ.1 62).toInt ≤ 4) (hnames0 : 0 ≤ (σ.1 68).toInt) (hnames1 : (σ.1 68).toInt ≤ 24) : Met l yX5_newName v_z_newName ({ frames := 2, cells := 0, slots := 0, locals := 44 } : Room) (va_Pc [.ref (ad 30), .int q] (xPre D (xT y) (prw y ad σ) sz)) (va_Qi (fun (r : Int32) (u : Int32 × Int32 × Int32 × Int32 × Int32 × Int32 × Int32 × Int32 × (Nat → Int64) × (Nat → Int32)) => 0 ≤ u.2.2.2.2.1.toInt ∧ u.2.2.2.2.1.toInt ≤ 8 ∧ 0 ≤ u.2.2.2.2.2.1.toInt ∧ u.2.2.2.2.2.1.toInt ≤ 4 ∧ 0 ≤ u.2.2.2.2.2.2.2.1.toInt ∧ u.2.2.2.2.2.2.2.1.toInt ≤ 24 ∧ (r.toInt = 0 ∨ r.toInt = 1)) (fun (u : Int32 × Int32 × Int32 × Int32 × Int32 × Int32 × Int32 × Int32 × (Nat → Int64) × (Nat → Int32)) => xB D (xT y) (va_A (prw y ad σ) sz) (prw y ad (tI (tJ (sI (sI (sI (sI (sI (sI (sI (sI σ 36 u.1) 37 u.2.1) 33 u.2.2.1) 34 u.2.2.2.1) 61 u.2.2.2.2.1) 62 u.2.2.2.2.2.1) 63 u.2.2.2.2.2.2.1) 68 u.2.2.2.2.2.2.2.1) 69 u.2.2.2.2.2.2.2.2.1) 70 u.2.2.2.2.2.2.2.2.2))) (va_A (prw y ad σ) sz)) 0 0 (va_A (prw y ad σ) sz) := by
  refine x_meti (cc := cX5_newName) (maxL := 4) (by decide) rfl (Nat.le_of_ble_eq_true rfl) ?_
  intro p e s m below meth c A H locs Q hx hb hml hown hts hr hlocks hmn hA hP hK hD hS ls hl hQ
  have hl : lv_has ls 4 [(0, .ref (ad 30)), (1, .int q)] := hl
  have kk_0 : (0 : Int32).toInt = 0 := rfl
  have fl12 := hts (.fieldLink RX5 12 "SlopeRunner$Parser" "tokens" "LSlopeRunner$Tokens;") (List.mem_of_getElem? (i := 1) rfl)
  have inX5 : ∀ w ∈ wsX50, w ∈ v_z_newName := (fun w h => List.mem_cons_of_mem _ (List.mem_append_right _ (List.mem_append_right _ (List.mem_append_right _ (List.mem_append_right _ (List.mem_append_right _ (List.mem_append_right _ (List.mem_append_right _ h))))))))
  have fl38 := hts (.fieldLink RX5 38 "SlopeRunner$Parser" "at" "I") (List.mem_of_getElem? (i := 2) rfl)
  have fl34 := hts (.fieldLink RX5 34 "SlopeRunner$Parser" "into" "LSlopeRunner$Program;") (List.mem_of_getElem? (i := 3) rfl)
  have kk_m1 : ((-1) : Int32).toInt = -1 := rfl
  have kk_1 : (1 : Int32).toInt = 1 := rfl
  have kk_3 : (3 : Int32).toInt = 3 := rfl
  refine lv_aload_n hx hb dX5_newName_0 rfl (lv_at hl 0 rfl) ?_
  refine x_calliW (va_runV (As := []) (rest := []) ⟨hx, hb, hml, hown, hts⟩ (z_isName l D y H.size ad σ ) (cwV 0 hts g_z_newName_0 rfl rfl rfl (by decide +kernel) ⟨Nat.le_of_ble_eq_true rfl, Nat.le_of_ble_eq_true rfl⟩) (x_preV (q := (RX5, TX5, 8)) hK hP hD (ci := 4) (q0 := 0) rfl prw_o0) rfl rfl hl.1 rfl (lv_room (Nat.le_of_ble_eq_true rfl)) dX5_newName_1 ⟨Nat.le_of_ble_eq_true rfl, Nat.le_of_ble_eq_true rfl⟩) hP hD hS hA (fun r_1 u H locs hw hP hD hS => ?_)
  obtain ⟨n_2, n_3⟩ := u
  try dsimp only at hw
  have hP : va_P D vwCl (prw y ad (sI (sI σ 36 n_2) 37 n_3)) H := hP
  have hD : va_D A (prw y ad (sI (sI σ 36 n_2) 37 n_3)) := hD
  replace hw : r_1.toInt = 0 ∨ r_1.toInt = 1 := hw
  refine lv_if_ne (tgt := 9) hx hb dX5_newName_4 (by decide) (fun c_4 => ?_) (fun c_4 => ?_)
  · have kc_4 : r_1.toInt ≠ 0 := by have h9 := c_4; simp only [ge_iff_le, gt_iff_lt, x_lt, x_le, x_eq, ne_eq, Int32.not_lt, Int32.not_le] at h9; simp only [Int32.reduceToInt] at h9; omega
    refine lv_aload_n hx hb dX5_newName_9 rfl (lv_at hl 0 rfl) ?_
    refine va_get (D := D) (ci := 4) (v := .ref (ad 40)) (C := RX5) (T := TX5) (N := 8) hx hb hts inX5 hown hK hP 0 prw_o0 rfl 0 (by decide) fl12 (fun _ h9 => h9) rfl dX5_newName_10 ?_
    refine lv_aload_n hx hb dX5_newName_13 rfl (lv_at hl 0 rfl) ?_
    refine va_get (D := D) (ci := 4) (v := .int (σ.1 33)) (C := RX5) (T := TX5) (N := 8) hx hb hts inX5 hown hK hP 0 prw_o0 rfl 2 (by decide) fl38 (fun _ h9 => h9) rfl dX5_newName_14 ?_
    have hPs : va_P D vwCl (tow y ad (sI (sI σ 36 n_2) 37 n_3)) H := x_suP hP [1, 3, 4, 5, 6] rfl
    have hDs : va_D A (tow y ad (sI (sI σ 36 n_2) 37 n_3)) := x_suD hD [1, 3, 4, 5, 6] rfl (by decide)
    refine x_calllS (b1 := fun (u : Unit) => (prw y ad (sI (sI σ 36 n_2) 37 n_3))) [1, 3, 4, 5, 6] (va_runV (As := [.int (σ.1 33)]) (rest := []) ⟨hx, hb, hml, hown, hts⟩ (o1_worthAt l D y H.size ad (sI (sI σ 36 n_2) 37 n_3) (σ.1 33) (show 0 ≤ ((σ.1 45)).toInt from by first | omega | decide) (show ((σ.1 45)).toInt ≤ 700 from by first | omega | decide)) (cwV 1 hts g_z_newName_1 rfl rfl rfl (by decide +kernel) ⟨Nat.le_of_ble_eq_true rfl, Nat.le_of_ble_eq_true rfl⟩) (x_preV (q := (RX10, TX10, 6)) hK hPs hDs (ci := 9) (q0 := 0) rfl tow_o0) rfl rfl hl.1 rfl (lv_room (Nat.le_of_ble_eq_true rfl)) dX5_newName_17 ⟨Nat.le_of_ble_eq_true rfl, Nat.le_of_ble_eq_true rfl⟩) hP hD hS hA rfl (fun _ => rfl) (fun _ => rfl) (fun _ => rfl) (fun r_5 u H locs hw hP hD hS => ?_)
    try dsimp only at hw
    have hP : va_P D vwCl (prw y ad (sI (sI σ 36 n_2) 37 n_3)) H := hP
    have hD : va_D A (prw y ad (sI (sI σ 36 n_2) 37 n_3)) := hD
    refine lv_lstore_n (lv' := [(2, .long r_5), (0, .ref (ad 30)), (1, .int q)]) hx hb dX5_newName_20 rfl hl (by decide) rfl (fun ls hl => ?_)
    refine lv_aload_n hx hb dX5_newName_21 rfl (lv_at hl 1 rfl) ?_
    refine va_get (D := D) (ci := 4) (v := .ref (ad 60)) (C := RX5) (T := TX5) (N := 8) hx hb hts inX5 hown hK hP 0 prw_o0 rfl 1 (by decide) fl34 (fun _ h9 => h9) rfl dX5_newName_22 ?_
    refine lv_lload_n hx hb dX5_newName_25 rfl (lv_at hl 0 rfl) ?_
    have hPs : va_P D vwCl (pgw y ad (sI (sI σ 36 n_2) 37 n_3)) H := x_suP hP [2, 7, 8, 9, 10, 11, 12] rfl
    have hDs : va_D A (pgw y ad (sI (sI σ 36 n_2) 37 n_3)) := x_suD hD [2, 7, 8, 9, 10, 11, 12] rfl (by decide)
    refine x_calliS (b1 := fun (u : Unit) => (prw y ad (sI (sI σ 36 n_2) 37 n_3))) [2, 7, 8, 9, 10, 11, 12] (va_runV (As := [.long r_5]) (rest := []) ⟨hx, hb, hml, hown, hts⟩ (w_slotOf l D y H.size ad (sI (sI σ 36 n_2) 37 n_3) r_5 (show 0 ≤ ((σ.1 68)).toInt from by first | omega | decide) (show ((σ.1 68)).toInt ≤ 24 from by first | omega | decide)) (cwV 1 hts g_z_newName_2 rfl rfl rfl (by decide +kernel) ⟨Nat.le_of_ble_eq_true rfl, Nat.le_of_ble_eq_true rfl⟩) (x_preV (q := (RX6, TX6, 13)) hK hPs hDs (ci := 5) (q0 := 0) rfl pgw_o0) rfl rfl hl.1 rfl (lv_room (Nat.le_of_ble_eq_true rfl)) dX5_newName_26 ⟨Nat.le_of_ble_eq_true rfl, Nat.le_of_ble_eq_true rfl⟩) hP hD hS hA rfl (fun _ => rfl) (fun _ => rfl) (fun _ => rfl) (fun r_6 u H locs hw hP hD hS => ?_)
    try dsimp only at hw
    have hP : va_P D vwCl (prw y ad (sI (sI σ 36 n_2) 37 n_3)) H := hP
    have hD : va_D A (prw y ad (sI (sI σ 36 n_2) 37 n_3)) := hD
    refine lv_iconst (v := (-1)) hx hb dX5_newName_29 (by decide) ?_
    refine lv_icmp_eq (tgt := 39) hx hb dX5_newName_30 (by decide) (fun c_7 => ?_) (fun c_7 => ?_)
    · have kc_7 : r_6.toInt = (-1) := by have h9 := c_7; simp only [ge_iff_le, gt_iff_lt, x_lt, x_le, x_eq, ne_eq, Int32.not_lt, Int32.not_le] at h9; simp only [Int32.reduceToInt] at h9; omega
      refine lv_aload_n hx hb dX5_newName_39 rfl (lv_at hl 1 rfl) ?_
      refine va_get (D := D) (ci := 4) (v := .ref (ad 60)) (C := RX5) (T := TX5) (N := 8) hx hb hts inX5 hown hK hP 0 prw_o0 rfl 1 (by decide) fl34 (fun _ h9 => h9) rfl dX5_newName_40 ?_
      refine lv_iload_n hx hb dX5_newName_43 rfl (lv_at hl 2 rfl) ?_
      refine lv_lload_n hx hb dX5_newName_44 rfl (lv_at hl 0 rfl) ?_
      have hPs : va_P D vwCl (pgw y ad (sI (sI σ 36 n_2) 37 n_3)) H := x_suP hP [2, 7, 8, 9, 10, 11, 12] rfl
      have hDs : va_D A (pgw y ad (sI (sI σ 36 n_2) 37 n_3)) := x_suD hD [2, 7, 8, 9, 10, 11, 12] rfl (by decide)
      refine x_callvS (b1 := fun (u : Int32 × Int32 × Int32 × Int32 × (Nat → Int64) × (Nat → Int32)) => (prw y ad (tI (tJ (sI (sI (sI (sI (sI (sI σ 36 n_2) 37 n_3) 61 u.1) 62 u.2.1) 63 u.2.2.1) 68 u.2.2.2.1) 69 u.2.2.2.2.1) 70 u.2.2.2.2.2))) [2, 7, 8, 9, 10, 11, 12] (va_runV (As := [.int q, .long r_5]) (rest := []) ⟨hx, hb, hml, hown, hts⟩ (w_addName l D y H.size ad (sI (sI σ 36 n_2) 37 n_3) q r_5 (show q.toInt ≠ 262 ∨ ((σ.1 61)).toInt ≤ 7 from by first | omega | decide) (show q.toInt ≠ 263 ∨ ((σ.1 62)).toInt ≤ 3 from by first | omega | decide) (show 0 ≤ ((σ.1 61)).toInt from by first | omega | decide) (show ((σ.1 61)).toInt ≤ 8 from by first | omega | decide) (show 0 ≤ ((σ.1 62)).toInt from by first | omega | decide) (show ((σ.1 62)).toInt ≤ 4 from by first | omega | decide) (show 0 ≤ ((σ.1 68)).toInt from by first | omega | decide) (show ((σ.1 68)).toInt ≤ 24 from by first | omega | decide)) (cwV 2 hts g_z_newName_3 rfl rfl rfl (by decide +kernel) ⟨Nat.le_of_ble_eq_true rfl, Nat.le_of_ble_eq_true rfl⟩) (x_preV (q := (RX6, TX6, 13)) hK hPs hDs (ci := 5) (q0 := 0) rfl pgw_o0) rfl rfl hl.1 rfl (lv_room (Nat.le_of_ble_eq_true rfl)) dX5_newName_45 ⟨Nat.le_of_ble_eq_true rfl, Nat.le_of_ble_eq_true rfl⟩) hP hD hS hA rfl (fun _ => rfl) (fun _ => rfl) (fun _ => rfl) (fun u H locs hw hP hD hS => ?_)
      obtain ⟨n_8, n_9, n_10, n_11, f_12, f_13⟩ := u
      try dsimp only at hw
      have hP : va_P D vwCl (prw y ad (tI (tJ (sI (sI (sI (sI (sI (sI σ 36 n_2) 37 n_3) 61 n_8) 62 n_9) 63 n_10) 68 n_11) 69 f_12) 70 f_13)) H := hP
      have hD : va_D A (prw y ad (tI (tJ (sI (sI (sI (sI (sI (sI σ 36 n_2) 37 n_3) 61 n_8) 62 n_9) 63 n_10) 68 n_11) 69 f_12) 70 f_13)) := hD
      replace hw : 0 ≤ n_8.toInt ∧ n_8.toInt ≤ 8 ∧ 0 ≤ n_9.toInt ∧ n_9.toInt ≤ 4 ∧ 0 ≤ n_11.toInt ∧ n_11.toInt ≤ 24 := hw
      refine lv_aload_n hx hb dX5_newName_48 rfl (lv_at hl 1 rfl) ?_
      refine x_callvW (va_runV (As := []) (rest := []) ⟨hx, hb, hml, hown, hts⟩ (z_pass l D y H.size ad (tI (tJ (sI (sI (sI (sI (sI (sI σ 36 n_2) 37 n_3) 61 n_8) 62 n_9) 63 n_10) 68 n_11) 69 f_12) 70 f_13) (show 0 ≤ ((σ.1 45)).toInt from by first | omega | decide) (show ((σ.1 45)).toInt ≤ 700 from by first | omega | decide)) (cwV 0 hts g_z_newName_4 rfl rfl rfl (by decide +kernel) ⟨Nat.le_of_ble_eq_true rfl, Nat.le_of_ble_eq_true rfl⟩) (x_preV (q := (RX5, TX5, 8)) hK hP hD (ci := 4) (q0 := 0) rfl prw_o0) rfl rfl hl.1 rfl (lv_room (Nat.le_of_ble_eq_true rfl)) dX5_newName_49 ⟨Nat.le_of_ble_eq_true rfl, Nat.le_of_ble_eq_true rfl⟩) hP hD hS hA (fun u H locs hw hP hD hS => ?_)
      obtain ⟨n_14, n_15⟩ := u
      try dsimp only at hw
      have hP : va_P D vwCl (prw y ad (sI (sI (tI (tJ (sI (sI (sI (sI (sI (sI σ 36 n_2) 37 n_3) 61 n_8) 62 n_9) 63 n_10) 68 n_11) 69 f_12) 70 f_13) 33 n_14) 34 n_15)) H := hP
      have hD : va_D A (prw y ad (sI (sI (tI (tJ (sI (sI (sI (sI (sI (sI σ 36 n_2) 37 n_3) 61 n_8) 62 n_9) 63 n_10) 68 n_11) 69 f_12) 70 f_13) 33 n_14) 34 n_15)) := hD
      replace hw : True := hw
      refine lv_iconst (v := 1) hx hb dX5_newName_52 (by decide) ?_
      have hP : va_P D vwCl (prw y ad (tI (tJ (sI (sI (sI (sI (sI (sI (sI (sI σ 36 n_2) 37 n_3) 33 n_14) 34 n_15) 61 n_8) 62 n_9) 63 n_10) 68 n_11) 69 f_12) 70 f_13)) H := hP
      have hD : va_D A (prw y ad (tI (tJ (sI (sI (sI (sI (sI (sI (sI (sI σ 36 n_2) 37 n_3) 33 n_14) 34 n_15) 61 n_8) 62 n_9) 63 n_10) 68 n_11) 69 f_12) 70 f_13)) := hD
      exact x_zretW (v := 1) (u := (n_2, n_3, n_14, n_15, n_8, n_9, n_10, n_11, f_12, f_13)) hx hb hr hQ rfl (by (try dsimp only); exact ⟨by omega, by omega, by omega, by omega, by omega, by omega, (by first | decide | exact Or.inl hw | omega)⟩) hP hD hK hS dX5_newName_53 hlocks
    · have kc_7 : r_6.toInt ≠ (-1) := by have h9 := c_7; simp only [ge_iff_le, gt_iff_lt, x_lt, x_le, x_eq, ne_eq, Int32.not_lt, Int32.not_le] at h9; simp only [Int32.reduceToInt] at h9; omega
      refine lv_aload_n hx hb dX5_newName_33 rfl (lv_at hl 1 rfl) ?_
      refine lv_iconst (v := 3) hx hb dX5_newName_34 (by decide) ?_
      refine x_calliW (va_runV (As := [.int 3]) (rest := []) ⟨hx, hb, hml, hown, hts⟩ (z_refuse l D y H.size ad (sI (sI σ 36 n_2) 37 n_3) 3) (cwV 1 hts g_z_newName_5 rfl rfl rfl (by decide +kernel) ⟨Nat.le_of_ble_eq_true rfl, Nat.le_of_ble_eq_true rfl⟩) (x_preV (q := (RX5, TX5, 8)) hK hP hD (ci := 4) (q0 := 0) rfl prw_o0) rfl rfl hl.1 rfl (lv_room (Nat.le_of_ble_eq_true rfl)) dX5_newName_35 ⟨Nat.le_of_ble_eq_true rfl, Nat.le_of_ble_eq_true rfl⟩) hP hD hS hA (fun r_16 u H locs hw hP hD hS => ?_)
      obtain ⟨n_17, n_18⟩ := u
      try dsimp only at hw
      have hP : va_P D vwCl (prw y ad (sI (sI (sI (sI σ 36 n_2) 37 n_3) 36 n_17) 37 n_18)) H := hP
      have hD : va_D A (prw y ad (sI (sI (sI (sI σ 36 n_2) 37 n_3) 36 n_17) 37 n_18)) := hD
      replace hw : r_16.toInt = 0 := hw
      have hP : va_P D vwCl (prw y ad (tI (tJ (sI (sI (sI (sI (sI (sI (sI (sI σ 36 n_17) 37 n_18) 33 (σ.1 33)) 34 (σ.1 34)) 61 (σ.1 61)) 62 (σ.1 62)) 63 (σ.1 63)) 68 (σ.1 68)) 69 (σ.2.2.2 69)) 70 (σ.2.2.1 70))) H := hP
      have hD : va_D A (prw y ad (tI (tJ (sI (sI (sI (sI (sI (sI (sI (sI σ 36 n_17) 37 n_18) 33 (σ.1 33)) 34 (σ.1 34)) 61 (σ.1 61)) 62 (σ.1 62)) 63 (σ.1 63)) 68 (σ.1 68)) 69 (σ.2.2.2 69)) 70 (σ.2.2.1 70))) := hD
      exact x_zretW (v := r_16) (u := (n_17, n_18, (σ.1 33), (σ.1 34), (σ.1 61), (σ.1 62), (σ.1 63), (σ.1 68), (σ.2.2.2 69), (σ.2.2.1 70))) hx hb hr hQ (x_01 (by first | exact hw | exact Or.inl hw | omega)) (by (try dsimp only); exact ⟨by omega, by omega, by omega, by omega, by omega, by omega, (by first | decide | exact Or.inl hw | omega)⟩) hP hD hK hS dX5_newName_38 hlocks
  · have kc_4 : r_1.toInt = 0 := by have h9 := c_4; simp only [ge_iff_le, gt_iff_lt, x_lt, x_le, x_eq, ne_eq, Int32.not_lt, Int32.not_le] at h9; simp only [Int32.reduceToInt] at h9; omega
    refine lv_iconst (v := 0) hx hb dX5_newName_7 (by decide) ?_
    have hP : va_P D vwCl (prw y ad (tI (tJ (sI (sI (sI (sI (sI (sI (sI (sI σ 36 n_2) 37 n_3) 33 (σ.1 33)) 34 (σ.1 34)) 61 (σ.1 61)) 62 (σ.1 62)) 63 (σ.1 63)) 68 (σ.1 68)) 69 (σ.2.2.2 69)) 70 (σ.2.2.1 70))) H := hP
    have hD : va_D A (prw y ad (tI (tJ (sI (sI (sI (sI (sI (sI (sI (sI σ 36 n_2) 37 n_3) 33 (σ.1 33)) 34 (σ.1 34)) 61 (σ.1 61)) 62 (σ.1 62)) 63 (σ.1 63)) 68 (σ.1 68)) 69 (σ.2.2.2 69)) 70 (σ.2.2.1 70))) := hD
    exact x_zretW (v := 0) (u := (n_2, n_3, (σ.1 33), (σ.1 34), (σ.1 61), (σ.1 62), (σ.1 63), (σ.1 68), (σ.2.2.2 69), (σ.2.2.1 70))) hx hb hr hQ rfl (by (try dsimp only); exact ⟨by omega, by omega, by omega, by omega, by omega, by omega, (by first | decide | exact Or.inl hw | omega)⟩) hP hD hK hS dX5_newName_8 hlocks

def v_z_placesOfRow : List Cond := .code yX5_placesOfRow cX5_placesOfRow 2 (some .boolean) :: ([.fieldLink RX5 12 "SlopeRunner$Parser" "tokens" "LSlopeRunner$Tokens;", .fieldLink RX5 38 "SlopeRunner$Parser" "at" "I", .fieldLink RX5 34 "SlopeRunner$Parser" "into" "LSlopeRunner$Program;"] ++ ((wsV RX5 128 RX5 yX5_isNumber v_z_isNumber) ++ ((wsV RX5 116 RX10 yX10_worthAt v_o1_worthAt) ++ ((wsV RX5 61 RX5 yX5_refuse v_z_refuse) ++ ((wsV RX5 131 RX6 yX6_sizeLatestRow v_w_sizeLatestRow) ++ ((wsV RX5 86 RX5 yX5_pass v_z_pass) ++ wsX50))))))
theorem g_z_placesOfRow_0 : GoodIn v_z_placesOfRow (wsV RX5 128 RX5 yX5_isNumber v_z_isNumber) := goodIn_sub (fun w h => List.mem_cons_of_mem _ (List.mem_append_right _ (List.mem_append_left _ h))) (by decide +kernel)
theorem g_z_placesOfRow_1 : GoodIn v_z_placesOfRow (wsV RX5 116 RX10 yX10_worthAt v_o1_worthAt) := goodIn_sub (fun w h => List.mem_cons_of_mem _ (List.mem_append_right _ (List.mem_append_right _ (List.mem_append_left _ h)))) (by decide +kernel)
theorem g_z_placesOfRow_2 : GoodIn v_z_placesOfRow (wsV RX5 61 RX5 yX5_refuse v_z_refuse) := goodIn_sub (fun w h => List.mem_cons_of_mem _ (List.mem_append_right _ (List.mem_append_right _ (List.mem_append_right _ (List.mem_append_left _ h))))) (by decide +kernel)
theorem g_z_placesOfRow_3 : GoodIn v_z_placesOfRow (wsV RX5 131 RX6 yX6_sizeLatestRow v_w_sizeLatestRow) := goodIn_sub (fun w h => List.mem_cons_of_mem _ (List.mem_append_right _ (List.mem_append_right _ (List.mem_append_right _ (List.mem_append_right _ (List.mem_append_left _ h)))))) (by decide +kernel)
theorem g_z_placesOfRow_4 : GoodIn v_z_placesOfRow (wsV RX5 86 RX5 yX5_pass v_z_pass) := goodIn_sub (fun w h => List.mem_cons_of_mem _ (List.mem_append_right _ (List.mem_append_right _ (List.mem_append_right _ (List.mem_append_right _ (List.mem_append_right _ (List.mem_append_left _ h))))))) (by decide +kernel)
set_option maxHeartbeats 4000000 in
set_option maxRecDepth 100000 in
theorem z_placesOfRow (l : Launch) (D : va_G) (y : Nat → ClassId) (sz : Nat) (ad : Nat → Nat) (σ : OS) (htcount0 : 0 ≤ (σ.1 45).toInt) (htcount1 : (σ.1 45).toInt ≤ 700) : Met l yX5_placesOfRow v_z_placesOfRow ({ frames := 2, cells := 0, slots := 0, locals := 42 } : Room) (va_Pc [.ref (ad 30)] (xPre D (xT y) (prw y ad σ) sz)) (va_Qi (fun (r : Int32) (u : Int32 × Int32 × Int32 × Int32 × (Nat → Int32)) => r.toInt = 0 ∨ r.toInt = 1) (fun (u : Int32 × Int32 × Int32 × Int32 × (Nat → Int32)) => xB D (xT y) (va_A (prw y ad σ) sz) (prw y ad (tI (sI (sI (sI (sI σ 36 u.1) 37 u.2.1) 33 u.2.2.1) 34 u.2.2.2.1) 67 u.2.2.2.2))) (va_A (prw y ad σ) sz)) 0 0 (va_A (prw y ad σ) sz) := by
  refine x_meti (cc := cX5_placesOfRow) (maxL := 2) (by decide) rfl (Nat.le_of_ble_eq_true rfl) ?_
  intro p e s m below meth c A H locs Q hx hb hml hown hts hr hlocks hmn hA hP hK hD hS ls hl hQ
  have hl : lv_has ls 2 [(0, .ref (ad 30))] := hl
  have kk_0 : (0 : Int32).toInt = 0 := rfl
  have fl12 := hts (.fieldLink RX5 12 "SlopeRunner$Parser" "tokens" "LSlopeRunner$Tokens;") (List.mem_of_getElem? (i := 1) rfl)
  have inX5 : ∀ w ∈ wsX50, w ∈ v_z_placesOfRow := (fun w h => List.mem_cons_of_mem _ (List.mem_append_right _ (List.mem_append_right _ (List.mem_append_right _ (List.mem_append_right _ (List.mem_append_right _ (List.mem_append_right _ h)))))))
  have fl38 := hts (.fieldLink RX5 38 "SlopeRunner$Parser" "at" "I") (List.mem_of_getElem? (i := 2) rfl)
  have kk_1 : (1 : Int32).toInt = 1 := rfl
  have kk_2 : (2 : Int32).toInt = 2 := rfl
  have kk_16 : (16 : Int32).toInt = 16 := rfl
  have fl34 := hts (.fieldLink RX5 34 "SlopeRunner$Parser" "into" "LSlopeRunner$Program;") (List.mem_of_getElem? (i := 3) rfl)
  refine lv_aload_n hx hb dX5_placesOfRow_0 rfl (lv_at hl 0 rfl) ?_
  refine x_calliW (va_runV (As := []) (rest := []) ⟨hx, hb, hml, hown, hts⟩ (z_isNumber l D y H.size ad σ ) (cwV 0 hts g_z_placesOfRow_0 rfl rfl rfl (by decide +kernel) ⟨Nat.le_of_ble_eq_true rfl, Nat.le_of_ble_eq_true rfl⟩) (x_preV (q := (RX5, TX5, 8)) hK hP hD (ci := 4) (q0 := 0) rfl prw_o0) rfl rfl hl.1 rfl (lv_room (Nat.le_of_ble_eq_true rfl)) dX5_placesOfRow_1 ⟨Nat.le_of_ble_eq_true rfl, Nat.le_of_ble_eq_true rfl⟩) hP hD hS hA (fun r_1 u H locs hw hP hD hS => ?_)
  obtain ⟨n_2, n_3⟩ := u
  try dsimp only at hw
  have hP : va_P D vwCl (prw y ad (sI (sI σ 36 n_2) 37 n_3)) H := hP
  have hD : va_D A (prw y ad (sI (sI σ 36 n_2) 37 n_3)) := hD
  replace hw : r_1.toInt = 0 ∨ r_1.toInt = 1 := hw
  refine lv_if_ne (tgt := 9) hx hb dX5_placesOfRow_4 (by decide) (fun c_4 => ?_) (fun c_4 => ?_)
  · have kc_4 : r_1.toInt ≠ 0 := by have h9 := c_4; simp only [ge_iff_le, gt_iff_lt, x_lt, x_le, x_eq, ne_eq, Int32.not_lt, Int32.not_le] at h9; simp only [Int32.reduceToInt] at h9; omega
    refine lv_aload_n hx hb dX5_placesOfRow_9 rfl (lv_at hl 0 rfl) ?_
    refine va_get (D := D) (ci := 4) (v := .ref (ad 40)) (C := RX5) (T := TX5) (N := 8) hx hb hts inX5 hown hK hP 0 prw_o0 rfl 0 (by decide) fl12 (fun _ h9 => h9) rfl dX5_placesOfRow_10 ?_
    refine lv_aload_n hx hb dX5_placesOfRow_13 rfl (lv_at hl 0 rfl) ?_
    refine va_get (D := D) (ci := 4) (v := .int (σ.1 33)) (C := RX5) (T := TX5) (N := 8) hx hb hts inX5 hown hK hP 0 prw_o0 rfl 2 (by decide) fl38 (fun _ h9 => h9) rfl dX5_placesOfRow_14 ?_
    have hPs : va_P D vwCl (tow y ad (sI (sI σ 36 n_2) 37 n_3)) H := x_suP hP [1, 3, 4, 5, 6] rfl
    have hDs : va_D A (tow y ad (sI (sI σ 36 n_2) 37 n_3)) := x_suD hD [1, 3, 4, 5, 6] rfl (by decide)
    refine x_calllS (b1 := fun (u : Unit) => (prw y ad (sI (sI σ 36 n_2) 37 n_3))) [1, 3, 4, 5, 6] (va_runV (As := [.int (σ.1 33)]) (rest := []) ⟨hx, hb, hml, hown, hts⟩ (o1_worthAt l D y H.size ad (sI (sI σ 36 n_2) 37 n_3) (σ.1 33) (show 0 ≤ ((σ.1 45)).toInt from by first | omega | decide) (show ((σ.1 45)).toInt ≤ 700 from by first | omega | decide)) (cwV 1 hts g_z_placesOfRow_1 rfl rfl rfl (by decide +kernel) ⟨Nat.le_of_ble_eq_true rfl, Nat.le_of_ble_eq_true rfl⟩) (x_preV (q := (RX10, TX10, 6)) hK hPs hDs (ci := 9) (q0 := 0) rfl tow_o0) rfl rfl hl.1 rfl (lv_room (Nat.le_of_ble_eq_true rfl)) dX5_placesOfRow_17 ⟨Nat.le_of_ble_eq_true rfl, Nat.le_of_ble_eq_true rfl⟩) hP hD hS hA rfl (fun _ => rfl) (fun _ => rfl) (fun _ => rfl) (fun r_5 u H locs hw hP hD hS => ?_)
    try dsimp only at hw
    have hP : va_P D vwCl (prw y ad (sI (sI σ 36 n_2) 37 n_3)) H := hP
    have hD : va_D A (prw y ad (sI (sI σ 36 n_2) 37 n_3)) := hD
    refine lv_l2i hx hb dX5_placesOfRow_20 rfl ?_
    refine lv_topi (fun i_6 ei_6 => ?_)
    refine lv_istore_n (lv' := [(1, .int i_6), (0, .ref (ad 30))]) hx hb dX5_placesOfRow_21 rfl hl (by decide) rfl (fun ls hl => ?_)
    refine lv_iload_n hx hb dX5_placesOfRow_22 rfl (lv_at hl 0 rfl) ?_
    refine lv_iconst (v := 1) hx hb dX5_placesOfRow_23 (by decide) ?_
    refine lv_icmp_lt (tgt := 33) hx hb dX5_placesOfRow_24 (by decide) (fun c_7 => ?_) (fun c_7 => ?_)
    · have kc_7 : i_6.toInt < 1 := by have h9 := c_7; simp only [ge_iff_le, gt_iff_lt, x_lt, x_le, x_eq, ne_eq, Int32.not_lt, Int32.not_le] at h9; simp only [Int32.reduceToInt] at h9; omega
      refine lv_aload_n hx hb dX5_placesOfRow_33 rfl (lv_at hl 1 rfl) ?_
      refine lv_iconst (v := 2) hx hb dX5_placesOfRow_34 (by decide) ?_
      refine x_calliW (va_runV (As := [.int 2]) (rest := []) ⟨hx, hb, hml, hown, hts⟩ (z_refuse l D y H.size ad (sI (sI σ 36 n_2) 37 n_3) 2) (cwV 1 hts g_z_placesOfRow_2 rfl rfl rfl (by decide +kernel) ⟨Nat.le_of_ble_eq_true rfl, Nat.le_of_ble_eq_true rfl⟩) (x_preV (q := (RX5, TX5, 8)) hK hP hD (ci := 4) (q0 := 0) rfl prw_o0) rfl rfl hl.1 rfl (lv_room (Nat.le_of_ble_eq_true rfl)) dX5_placesOfRow_35 ⟨Nat.le_of_ble_eq_true rfl, Nat.le_of_ble_eq_true rfl⟩) hP hD hS hA (fun r_8 u H locs hw hP hD hS => ?_)
      obtain ⟨n_9, n_10⟩ := u
      try dsimp only at hw
      have hP : va_P D vwCl (prw y ad (sI (sI (sI (sI σ 36 n_2) 37 n_3) 36 n_9) 37 n_10)) H := hP
      have hD : va_D A (prw y ad (sI (sI (sI (sI σ 36 n_2) 37 n_3) 36 n_9) 37 n_10)) := hD
      replace hw : r_8.toInt = 0 := hw
      have hP : va_P D vwCl (prw y ad (tI (sI (sI (sI (sI σ 36 n_9) 37 n_10) 33 (σ.1 33)) 34 (σ.1 34)) 67 (σ.2.2.1 67))) H := hP
      have hD : va_D A (prw y ad (tI (sI (sI (sI (sI σ 36 n_9) 37 n_10) 33 (σ.1 33)) 34 (σ.1 34)) 67 (σ.2.2.1 67))) := hD
      exact x_zretW (v := r_8) (u := (n_9, n_10, (σ.1 33), (σ.1 34), (σ.2.2.1 67))) hx hb hr hQ (x_01 (by first | exact hw | exact Or.inl hw | omega)) (by (try dsimp only); exact (by first | decide | exact Or.inl hw | omega)) hP hD hK hS dX5_placesOfRow_38 hlocks
    · have kc_7 : i_6.toInt ≥ 1 := by have h9 := c_7; simp only [ge_iff_le, gt_iff_lt, x_lt, x_le, x_eq, ne_eq, Int32.not_lt, Int32.not_le] at h9; simp only [Int32.reduceToInt] at h9; omega
      refine lv_iload_n hx hb dX5_placesOfRow_27 rfl (lv_at hl 0 rfl) ?_
      refine lv_bipush (v := 16) hx hb dX5_placesOfRow_28 (by decide) ?_
      refine lv_icmp_le (tgt := 39) hx hb dX5_placesOfRow_30 (by decide) (fun c_11 => ?_) (fun c_11 => ?_)
      · have kc_11 : i_6.toInt ≤ 16 := by have h9 := c_11; simp only [ge_iff_le, gt_iff_lt, x_lt, x_le, x_eq, ne_eq, Int32.not_lt, Int32.not_le] at h9; simp only [Int32.reduceToInt] at h9; omega
        refine lv_aload_n hx hb dX5_placesOfRow_39 rfl (lv_at hl 1 rfl) ?_
        refine va_get (D := D) (ci := 4) (v := .ref (ad 60)) (C := RX5) (T := TX5) (N := 8) hx hb hts inX5 hown hK hP 0 prw_o0 rfl 1 (by decide) fl34 (fun _ h9 => h9) rfl dX5_placesOfRow_40 ?_
        refine lv_iload_n hx hb dX5_placesOfRow_43 rfl (lv_at hl 0 rfl) ?_
        have hPs : va_P D vwCl (pgw y ad (sI (sI σ 36 n_2) 37 n_3)) H := x_suP hP [2, 7, 8, 9, 10, 11, 12] rfl
        have hDs : va_D A (pgw y ad (sI (sI σ 36 n_2) 37 n_3)) := x_suD hD [2, 7, 8, 9, 10, 11, 12] rfl (by decide)
        refine x_callvS (b1 := fun (u : (Nat → Int32)) => (prw y ad (tI (sI (sI σ 36 n_2) 37 n_3) 67 u))) [2, 7, 8, 9, 10, 11, 12] (va_runV (As := [.int i_6]) (rest := []) ⟨hx, hb, hml, hown, hts⟩ (w_sizeLatestRow l D y H.size ad (sI (sI σ 36 n_2) 37 n_3) i_6) (cwV 1 hts g_z_placesOfRow_3 rfl rfl rfl (by decide +kernel) ⟨Nat.le_of_ble_eq_true rfl, Nat.le_of_ble_eq_true rfl⟩) (x_preV (q := (RX6, TX6, 13)) hK hPs hDs (ci := 5) (q0 := 0) rfl pgw_o0) rfl rfl hl.1 rfl (lv_room (Nat.le_of_ble_eq_true rfl)) dX5_placesOfRow_44 ⟨Nat.le_of_ble_eq_true rfl, Nat.le_of_ble_eq_true rfl⟩) hP hD hS hA rfl (fun _ => rfl) (fun _ => rfl) (fun _ => rfl) (fun u H locs hw hP hD hS => ?_)
        obtain ⟨f_12, rfl⟩ : ∃ z9, z9 = u := ⟨_, rfl⟩
        try dsimp only at hw
        have hP : va_P D vwCl (prw y ad (tI (sI (sI σ 36 n_2) 37 n_3) 67 f_12)) H := hP
        have hD : va_D A (prw y ad (tI (sI (sI σ 36 n_2) 37 n_3) 67 f_12)) := hD
        refine lv_aload_n hx hb dX5_placesOfRow_47 rfl (lv_at hl 1 rfl) ?_
        refine x_callvW (va_runV (As := []) (rest := []) ⟨hx, hb, hml, hown, hts⟩ (z_pass l D y H.size ad (tI (sI (sI σ 36 n_2) 37 n_3) 67 f_12) (show 0 ≤ ((σ.1 45)).toInt from by first | omega | decide) (show ((σ.1 45)).toInt ≤ 700 from by first | omega | decide)) (cwV 0 hts g_z_placesOfRow_4 rfl rfl rfl (by decide +kernel) ⟨Nat.le_of_ble_eq_true rfl, Nat.le_of_ble_eq_true rfl⟩) (x_preV (q := (RX5, TX5, 8)) hK hP hD (ci := 4) (q0 := 0) rfl prw_o0) rfl rfl hl.1 rfl (lv_room (Nat.le_of_ble_eq_true rfl)) dX5_placesOfRow_48 ⟨Nat.le_of_ble_eq_true rfl, Nat.le_of_ble_eq_true rfl⟩) hP hD hS hA (fun u H locs hw hP hD hS => ?_)
        obtain ⟨n_13, n_14⟩ := u
        try dsimp only at hw
        have hP : va_P D vwCl (prw y ad (sI (sI (tI (sI (sI σ 36 n_2) 37 n_3) 67 f_12) 33 n_13) 34 n_14)) H := hP
        have hD : va_D A (prw y ad (sI (sI (tI (sI (sI σ 36 n_2) 37 n_3) 67 f_12) 33 n_13) 34 n_14)) := hD
        replace hw : True := hw
        refine lv_iconst (v := 1) hx hb dX5_placesOfRow_51 (by decide) ?_
        have hP : va_P D vwCl (prw y ad (tI (sI (sI (sI (sI σ 36 n_2) 37 n_3) 33 n_13) 34 n_14) 67 f_12)) H := hP
        have hD : va_D A (prw y ad (tI (sI (sI (sI (sI σ 36 n_2) 37 n_3) 33 n_13) 34 n_14) 67 f_12)) := hD
        exact x_zretW (v := 1) (u := (n_2, n_3, n_13, n_14, f_12)) hx hb hr hQ rfl (by (try dsimp only); exact (by first | decide | exact Or.inl hw | omega)) hP hD hK hS dX5_placesOfRow_52 hlocks
      · have kc_11 : i_6.toInt > 16 := by have h9 := c_11; simp only [ge_iff_le, gt_iff_lt, x_lt, x_le, x_eq, ne_eq, Int32.not_lt, Int32.not_le] at h9; simp only [Int32.reduceToInt] at h9; omega
        refine lv_aload_n hx hb dX5_placesOfRow_33 rfl (lv_at hl 1 rfl) ?_
        refine lv_iconst (v := 2) hx hb dX5_placesOfRow_34 (by decide) ?_
        refine x_calliW (va_runV (As := [.int 2]) (rest := []) ⟨hx, hb, hml, hown, hts⟩ (z_refuse l D y H.size ad (sI (sI σ 36 n_2) 37 n_3) 2) (cwV 1 hts g_z_placesOfRow_2 rfl rfl rfl (by decide +kernel) ⟨Nat.le_of_ble_eq_true rfl, Nat.le_of_ble_eq_true rfl⟩) (x_preV (q := (RX5, TX5, 8)) hK hP hD (ci := 4) (q0 := 0) rfl prw_o0) rfl rfl hl.1 rfl (lv_room (Nat.le_of_ble_eq_true rfl)) dX5_placesOfRow_35 ⟨Nat.le_of_ble_eq_true rfl, Nat.le_of_ble_eq_true rfl⟩) hP hD hS hA (fun r_15 u H locs hw hP hD hS => ?_)
        obtain ⟨n_16, n_17⟩ := u
        try dsimp only at hw
        have hP : va_P D vwCl (prw y ad (sI (sI (sI (sI σ 36 n_2) 37 n_3) 36 n_16) 37 n_17)) H := hP
        have hD : va_D A (prw y ad (sI (sI (sI (sI σ 36 n_2) 37 n_3) 36 n_16) 37 n_17)) := hD
        replace hw : r_15.toInt = 0 := hw
        have hP : va_P D vwCl (prw y ad (tI (sI (sI (sI (sI σ 36 n_16) 37 n_17) 33 (σ.1 33)) 34 (σ.1 34)) 67 (σ.2.2.1 67))) H := hP
        have hD : va_D A (prw y ad (tI (sI (sI (sI (sI σ 36 n_16) 37 n_17) 33 (σ.1 33)) 34 (σ.1 34)) 67 (σ.2.2.1 67))) := hD
        exact x_zretW (v := r_15) (u := (n_16, n_17, (σ.1 33), (σ.1 34), (σ.2.2.1 67))) hx hb hr hQ (x_01 (by first | exact hw | exact Or.inl hw | omega)) (by (try dsimp only); exact (by first | decide | exact Or.inl hw | omega)) hP hD hK hS dX5_placesOfRow_38 hlocks
  · have kc_4 : r_1.toInt = 0 := by have h9 := c_4; simp only [ge_iff_le, gt_iff_lt, x_lt, x_le, x_eq, ne_eq, Int32.not_lt, Int32.not_le] at h9; simp only [Int32.reduceToInt] at h9; omega
    refine lv_iconst (v := 0) hx hb dX5_placesOfRow_7 (by decide) ?_
    have hP : va_P D vwCl (prw y ad (tI (sI (sI (sI (sI σ 36 n_2) 37 n_3) 33 (σ.1 33)) 34 (σ.1 34)) 67 (σ.2.2.1 67))) H := hP
    have hD : va_D A (prw y ad (tI (sI (sI (sI (sI σ 36 n_2) 37 n_3) 33 (σ.1 33)) 34 (σ.1 34)) 67 (σ.2.2.1 67))) := hD
    exact x_zretW (v := 0) (u := (n_2, n_3, (σ.1 33), (σ.1 34), (σ.2.2.1 67))) hx hb hr hQ rfl (by (try dsimp only); exact (by first | decide | exact Or.inl hw | omega)) hP hD hK hS dX5_placesOfRow_8 hlocks

def v_z_knownName : List Cond := .code yX5_knownName cX5_knownName 2 (some .int) :: ([.fieldLink RX5 34 "SlopeRunner$Parser" "into" "LSlopeRunner$Program;", .fieldLink RX5 12 "SlopeRunner$Parser" "tokens" "LSlopeRunner$Tokens;", .fieldLink RX5 38 "SlopeRunner$Parser" "at" "I"] ++ ((wsV RX5 113 RX5 yX5_isName v_z_isName) ++ ((wsV RX5 116 RX10 yX10_worthAt v_o1_worthAt) ++ ((wsV RX5 120 RX6 yX6_slotOf v_w_slotOf) ++ ((wsV RX5 86 RX5 yX5_pass v_z_pass) ++ ((wsV RX5 61 RX5 yX5_refuse v_z_refuse) ++ wsX50))))))
theorem g_z_knownName_0 : GoodIn v_z_knownName (wsV RX5 113 RX5 yX5_isName v_z_isName) := goodIn_sub (fun w h => List.mem_cons_of_mem _ (List.mem_append_right _ (List.mem_append_left _ h))) (by decide +kernel)
theorem g_z_knownName_1 : GoodIn v_z_knownName (wsV RX5 116 RX10 yX10_worthAt v_o1_worthAt) := goodIn_sub (fun w h => List.mem_cons_of_mem _ (List.mem_append_right _ (List.mem_append_right _ (List.mem_append_left _ h)))) (by decide +kernel)
theorem g_z_knownName_2 : GoodIn v_z_knownName (wsV RX5 120 RX6 yX6_slotOf v_w_slotOf) := goodIn_sub (fun w h => List.mem_cons_of_mem _ (List.mem_append_right _ (List.mem_append_right _ (List.mem_append_right _ (List.mem_append_left _ h))))) (by decide +kernel)
theorem g_z_knownName_3 : GoodIn v_z_knownName (wsV RX5 86 RX5 yX5_pass v_z_pass) := goodIn_sub (fun w h => List.mem_cons_of_mem _ (List.mem_append_right _ (List.mem_append_right _ (List.mem_append_right _ (List.mem_append_right _ (List.mem_append_left _ h)))))) (by decide +kernel)
theorem g_z_knownName_4 : GoodIn v_z_knownName (wsV RX5 61 RX5 yX5_refuse v_z_refuse) := goodIn_sub (fun w h => List.mem_cons_of_mem _ (List.mem_append_right _ (List.mem_append_right _ (List.mem_append_right _ (List.mem_append_right _ (List.mem_append_right _ (List.mem_append_left _ h))))))) (by decide +kernel)
set_option maxHeartbeats 4000000 in
set_option maxRecDepth 100000 in
theorem z_knownName (l : Launch) (D : va_G) (y : Nat → ClassId) (sz : Nat) (ad : Nat → Nat) (σ : OS) (htcount0 : 0 ≤ (σ.1 45).toInt) (htcount1 : (σ.1 45).toInt ≤ 700) (hnames0 : 0 ≤ (σ.1 68).toInt) (hnames1 : (σ.1 68).toInt ≤ 24) : Met l yX5_knownName v_z_knownName ({ frames := 2, cells := 0, slots := 0, locals := 42 } : Room) (va_Pc [.ref (ad 30)] (xPre D (xT y) (prw y ad σ) sz)) (va_Qi (fun (r : Int32) (u : Int32 × Int32 × Int32 × Int32) => True) (fun (u : Int32 × Int32 × Int32 × Int32) => xB D (xT y) (va_A (prw y ad σ) sz) (prw y ad (sI (sI (sI (sI σ 36 u.1) 37 u.2.1) 33 u.2.2.1) 34 u.2.2.2))) (va_A (prw y ad σ) sz)) 0 0 (va_A (prw y ad σ) sz) := by
  refine x_meti (cc := cX5_knownName) (maxL := 2) (by decide) rfl (Nat.le_of_ble_eq_true rfl) ?_
  intro p e s m below meth c A H locs Q hx hb hml hown hts hr hlocks hmn hA hP hK hD hS ls hl hQ
  have hl : lv_has ls 2 [(0, .ref (ad 30))] := hl
  have kk_0 : (0 : Int32).toInt = 0 := rfl
  have fl34 := hts (.fieldLink RX5 34 "SlopeRunner$Parser" "into" "LSlopeRunner$Program;") (List.mem_of_getElem? (i := 1) rfl)
  have inX5 : ∀ w ∈ wsX50, w ∈ v_z_knownName := (fun w h => List.mem_cons_of_mem _ (List.mem_append_right _ (List.mem_append_right _ (List.mem_append_right _ (List.mem_append_right _ (List.mem_append_right _ (List.mem_append_right _ h)))))))
  have fl12 := hts (.fieldLink RX5 12 "SlopeRunner$Parser" "tokens" "LSlopeRunner$Tokens;") (List.mem_of_getElem? (i := 2) rfl)
  have fl38 := hts (.fieldLink RX5 38 "SlopeRunner$Parser" "at" "I") (List.mem_of_getElem? (i := 3) rfl)
  have kk_m1 : ((-1) : Int32).toInt = -1 := rfl
  have kk_3 : (3 : Int32).toInt = 3 := rfl
  refine lv_aload_n hx hb dX5_knownName_0 rfl (lv_at hl 0 rfl) ?_
  refine x_calliW (va_runV (As := []) (rest := []) ⟨hx, hb, hml, hown, hts⟩ (z_isName l D y H.size ad σ ) (cwV 0 hts g_z_knownName_0 rfl rfl rfl (by decide +kernel) ⟨Nat.le_of_ble_eq_true rfl, Nat.le_of_ble_eq_true rfl⟩) (x_preV (q := (RX5, TX5, 8)) hK hP hD (ci := 4) (q0 := 0) rfl prw_o0) rfl rfl hl.1 rfl (lv_room (Nat.le_of_ble_eq_true rfl)) dX5_knownName_1 ⟨Nat.le_of_ble_eq_true rfl, Nat.le_of_ble_eq_true rfl⟩) hP hD hS hA (fun r_1 u H locs hw hP hD hS => ?_)
  obtain ⟨n_2, n_3⟩ := u
  try dsimp only at hw
  have hP : va_P D vwCl (prw y ad (sI (sI σ 36 n_2) 37 n_3)) H := hP
  have hD : va_D A (prw y ad (sI (sI σ 36 n_2) 37 n_3)) := hD
  replace hw : r_1.toInt = 0 ∨ r_1.toInt = 1 := hw
  refine lv_if_ne (tgt := 9) hx hb dX5_knownName_4 (by decide) (fun c_4 => ?_) (fun c_4 => ?_)
  · have kc_4 : r_1.toInt ≠ 0 := by have h9 := c_4; simp only [ge_iff_le, gt_iff_lt, x_lt, x_le, x_eq, ne_eq, Int32.not_lt, Int32.not_le] at h9; simp only [Int32.reduceToInt] at h9; omega
    refine lv_aload_n hx hb dX5_knownName_9 rfl (lv_at hl 0 rfl) ?_
    refine va_get (D := D) (ci := 4) (v := .ref (ad 60)) (C := RX5) (T := TX5) (N := 8) hx hb hts inX5 hown hK hP 0 prw_o0 rfl 1 (by decide) fl34 (fun _ h9 => h9) rfl dX5_knownName_10 ?_
    refine lv_aload_n hx hb dX5_knownName_13 rfl (lv_at hl 0 rfl) ?_
    refine va_get (D := D) (ci := 4) (v := .ref (ad 40)) (C := RX5) (T := TX5) (N := 8) hx hb hts inX5 hown hK hP 0 prw_o0 rfl 0 (by decide) fl12 (fun _ h9 => h9) rfl dX5_knownName_14 ?_
    refine lv_aload_n hx hb dX5_knownName_17 rfl (lv_at hl 0 rfl) ?_
    refine va_get (D := D) (ci := 4) (v := .int (σ.1 33)) (C := RX5) (T := TX5) (N := 8) hx hb hts inX5 hown hK hP 0 prw_o0 rfl 2 (by decide) fl38 (fun _ h9 => h9) rfl dX5_knownName_18 ?_
    have hPs : va_P D vwCl (tow y ad (sI (sI σ 36 n_2) 37 n_3)) H := x_suP hP [1, 3, 4, 5, 6] rfl
    have hDs : va_D A (tow y ad (sI (sI σ 36 n_2) 37 n_3)) := x_suD hD [1, 3, 4, 5, 6] rfl (by decide)
    refine x_calllS (b1 := fun (u : Unit) => (prw y ad (sI (sI σ 36 n_2) 37 n_3))) [1, 3, 4, 5, 6] (va_runV (As := [.int (σ.1 33)]) (rest := [.ref (ad 60)]) ⟨hx, hb, hml, hown, hts⟩ (o1_worthAt l D y H.size ad (sI (sI σ 36 n_2) 37 n_3) (σ.1 33) (show 0 ≤ ((σ.1 45)).toInt from by first | omega | decide) (show ((σ.1 45)).toInt ≤ 700 from by first | omega | decide)) (cwV 1 hts g_z_knownName_1 rfl rfl rfl (by decide +kernel) ⟨Nat.le_of_ble_eq_true rfl, Nat.le_of_ble_eq_true rfl⟩) (x_preV (q := (RX10, TX10, 6)) hK hPs hDs (ci := 9) (q0 := 0) rfl tow_o0) rfl rfl hl.1 rfl (lv_room (Nat.le_of_ble_eq_true rfl)) dX5_knownName_21 ⟨Nat.le_of_ble_eq_true rfl, Nat.le_of_ble_eq_true rfl⟩) hP hD hS hA rfl (fun _ => rfl) (fun _ => rfl) (fun _ => rfl) (fun r_5 u H locs hw hP hD hS => ?_)
    try dsimp only at hw
    have hP : va_P D vwCl (prw y ad (sI (sI σ 36 n_2) 37 n_3)) H := hP
    have hD : va_D A (prw y ad (sI (sI σ 36 n_2) 37 n_3)) := hD
    have hPs : va_P D vwCl (pgw y ad (sI (sI σ 36 n_2) 37 n_3)) H := x_suP hP [2, 7, 8, 9, 10, 11, 12] rfl
    have hDs : va_D A (pgw y ad (sI (sI σ 36 n_2) 37 n_3)) := x_suD hD [2, 7, 8, 9, 10, 11, 12] rfl (by decide)
    refine x_calliS (b1 := fun (u : Unit) => (prw y ad (sI (sI σ 36 n_2) 37 n_3))) [2, 7, 8, 9, 10, 11, 12] (va_runV (As := [.long r_5]) (rest := []) ⟨hx, hb, hml, hown, hts⟩ (w_slotOf l D y H.size ad (sI (sI σ 36 n_2) 37 n_3) r_5 (show 0 ≤ ((σ.1 68)).toInt from by first | omega | decide) (show ((σ.1 68)).toInt ≤ 24 from by first | omega | decide)) (cwV 1 hts g_z_knownName_2 rfl rfl rfl (by decide +kernel) ⟨Nat.le_of_ble_eq_true rfl, Nat.le_of_ble_eq_true rfl⟩) (x_preV (q := (RX6, TX6, 13)) hK hPs hDs (ci := 5) (q0 := 0) rfl pgw_o0) rfl rfl hl.1 rfl (lv_room (Nat.le_of_ble_eq_true rfl)) dX5_knownName_24 ⟨Nat.le_of_ble_eq_true rfl, Nat.le_of_ble_eq_true rfl⟩) hP hD hS hA rfl (fun _ => rfl) (fun _ => rfl) (fun _ => rfl) (fun r_6 u H locs hw hP hD hS => ?_)
    try dsimp only at hw
    have hP : va_P D vwCl (prw y ad (sI (sI σ 36 n_2) 37 n_3)) H := hP
    have hD : va_D A (prw y ad (sI (sI σ 36 n_2) 37 n_3)) := hD
    refine lv_istore_n (lv' := [(1, .int r_6), (0, .ref (ad 30))]) hx hb dX5_knownName_27 rfl hl (by decide) rfl (fun ls hl => ?_)
    refine lv_iload_n hx hb dX5_knownName_28 rfl (lv_at hl 0 rfl) ?_
    refine lv_iconst (v := (-1)) hx hb dX5_knownName_29 (by decide) ?_
    refine lv_icmp_ne (tgt := 42) hx hb dX5_knownName_30 (by decide) (fun c_7 => ?_) (fun c_7 => ?_)
    · have kc_7 : r_6.toInt ≠ (-1) := by have h9 := c_7; simp only [ge_iff_le, gt_iff_lt, x_lt, x_le, x_eq, ne_eq, Int32.not_lt, Int32.not_le] at h9; simp only [Int32.reduceToInt] at h9; omega
      refine lv_aload_n hx hb dX5_knownName_42 rfl (lv_at hl 1 rfl) ?_
      refine x_callvW (va_runV (As := []) (rest := []) ⟨hx, hb, hml, hown, hts⟩ (z_pass l D y H.size ad (sI (sI σ 36 n_2) 37 n_3) (show 0 ≤ ((σ.1 45)).toInt from by first | omega | decide) (show ((σ.1 45)).toInt ≤ 700 from by first | omega | decide)) (cwV 0 hts g_z_knownName_3 rfl rfl rfl (by decide +kernel) ⟨Nat.le_of_ble_eq_true rfl, Nat.le_of_ble_eq_true rfl⟩) (x_preV (q := (RX5, TX5, 8)) hK hP hD (ci := 4) (q0 := 0) rfl prw_o0) rfl rfl hl.1 rfl (lv_room (Nat.le_of_ble_eq_true rfl)) dX5_knownName_43 ⟨Nat.le_of_ble_eq_true rfl, Nat.le_of_ble_eq_true rfl⟩) hP hD hS hA (fun u H locs hw hP hD hS => ?_)
      obtain ⟨n_8, n_9⟩ := u
      try dsimp only at hw
      have hP : va_P D vwCl (prw y ad (sI (sI (sI (sI σ 36 n_2) 37 n_3) 33 n_8) 34 n_9)) H := hP
      have hD : va_D A (prw y ad (sI (sI (sI (sI σ 36 n_2) 37 n_3) 33 n_8) 34 n_9)) := hD
      replace hw : True := hw
      refine lv_iload_n hx hb dX5_knownName_46 rfl (lv_at hl 0 rfl) ?_
      exact x_iretW (v := r_6) (u := (n_2, n_3, n_8, n_9)) hx hb hr hQ trivial hP hD hK hS dX5_knownName_47 hlocks
    · have kc_7 : r_6.toInt = (-1) := by have h9 := c_7; simp only [ge_iff_le, gt_iff_lt, x_lt, x_le, x_eq, ne_eq, Int32.not_lt, Int32.not_le] at h9; simp only [Int32.reduceToInt] at h9; omega
      refine lv_aload_n hx hb dX5_knownName_33 rfl (lv_at hl 1 rfl) ?_
      refine lv_iconst (v := 3) hx hb dX5_knownName_34 (by decide) ?_
      refine x_calliW (va_runV (As := [.int 3]) (rest := []) ⟨hx, hb, hml, hown, hts⟩ (z_refuse l D y H.size ad (sI (sI σ 36 n_2) 37 n_3) 3) (cwV 1 hts g_z_knownName_4 rfl rfl rfl (by decide +kernel) ⟨Nat.le_of_ble_eq_true rfl, Nat.le_of_ble_eq_true rfl⟩) (x_preV (q := (RX5, TX5, 8)) hK hP hD (ci := 4) (q0 := 0) rfl prw_o0) rfl rfl hl.1 rfl (lv_room (Nat.le_of_ble_eq_true rfl)) dX5_knownName_35 ⟨Nat.le_of_ble_eq_true rfl, Nat.le_of_ble_eq_true rfl⟩) hP hD hS hA (fun r_10 u H locs hw hP hD hS => ?_)
      obtain ⟨n_11, n_12⟩ := u
      try dsimp only at hw
      have hP : va_P D vwCl (prw y ad (sI (sI (sI (sI σ 36 n_2) 37 n_3) 36 n_11) 37 n_12)) H := hP
      have hD : va_D A (prw y ad (sI (sI (sI (sI σ 36 n_2) 37 n_3) 36 n_11) 37 n_12)) := hD
      replace hw : r_10.toInt = 0 := hw
      refine lv_pop hx hb dX5_knownName_38 rfl ?_
      refine lv_goto (tgt := 46) hx hb dX5_knownName_39 (by decide) ?_
      refine lv_iload_n hx hb dX5_knownName_46 rfl (lv_at hl 0 rfl) ?_
      have hP : va_P D vwCl (prw y ad (sI (sI (sI (sI σ 36 n_11) 37 n_12) 33 (σ.1 33)) 34 (σ.1 34))) H := hP
      have hD : va_D A (prw y ad (sI (sI (sI (sI σ 36 n_11) 37 n_12) 33 (σ.1 33)) 34 (σ.1 34))) := hD
      exact x_iretW (v := r_6) (u := (n_11, n_12, (σ.1 33), (σ.1 34))) hx hb hr hQ trivial hP hD hK hS dX5_knownName_47 hlocks
  · have kc_4 : r_1.toInt = 0 := by have h9 := c_4; simp only [ge_iff_le, gt_iff_lt, x_lt, x_le, x_eq, ne_eq, Int32.not_lt, Int32.not_le] at h9; simp only [Int32.reduceToInt] at h9; omega
    refine lv_iconst (v := (-1)) hx hb dX5_knownName_7 (by decide) ?_
    have hP : va_P D vwCl (prw y ad (sI (sI (sI (sI σ 36 n_2) 37 n_3) 33 (σ.1 33)) 34 (σ.1 34))) H := hP
    have hD : va_D A (prw y ad (sI (sI (sI (sI σ 36 n_2) 37 n_3) 33 (σ.1 33)) 34 (σ.1 34))) := hD
    exact x_iretW (v := (-1)) (u := (n_2, n_3, (σ.1 33), (σ.1 34))) hx hb hr hQ trivial hP hD hK hS dX5_knownName_8 hlocks

def v_z_written : List Cond := .code yX5_written cX5_written 1 (some .boolean) :: ([.fieldLink RX5 34 "SlopeRunner$Parser" "into" "LSlopeRunner$Program;", .fieldLink RX5 12 "SlopeRunner$Parser" "tokens" "LSlopeRunner$Tokens;", .fieldLink RX5 38 "SlopeRunner$Parser" "at" "I"] ++ ((wsV RX5 128 RX5 yX5_isNumber v_z_isNumber) ++ ((wsV RX5 116 RX10 yX10_worthAt v_o1_worthAt) ++ ((wsV RX5 202 RX6 yX6_emitNumber v_w_emitNumber) ++ ((wsV RX5 86 RX5 yX5_pass v_z_pass) ++ wsX50)))))
theorem g_z_written_0 : GoodIn v_z_written (wsV RX5 128 RX5 yX5_isNumber v_z_isNumber) := goodIn_sub (fun w h => List.mem_cons_of_mem _ (List.mem_append_right _ (List.mem_append_left _ h))) (by decide +kernel)
theorem g_z_written_1 : GoodIn v_z_written (wsV RX5 116 RX10 yX10_worthAt v_o1_worthAt) := goodIn_sub (fun w h => List.mem_cons_of_mem _ (List.mem_append_right _ (List.mem_append_right _ (List.mem_append_left _ h)))) (by decide +kernel)
theorem g_z_written_2 : GoodIn v_z_written (wsV RX5 202 RX6 yX6_emitNumber v_w_emitNumber) := goodIn_sub (fun w h => List.mem_cons_of_mem _ (List.mem_append_right _ (List.mem_append_right _ (List.mem_append_right _ (List.mem_append_left _ h))))) (by decide +kernel)
theorem g_z_written_3 : GoodIn v_z_written (wsV RX5 86 RX5 yX5_pass v_z_pass) := goodIn_sub (fun w h => List.mem_cons_of_mem _ (List.mem_append_right _ (List.mem_append_right _ (List.mem_append_right _ (List.mem_append_right _ (List.mem_append_left _ h)))))) (by decide +kernel)
set_option maxHeartbeats 4000000 in
set_option maxRecDepth 100000 in
theorem z_written (l : Launch) (D : va_G) (y : Nat → ClassId) (sz : Nat) (ad : Nat → Nat) (σ : OS) (htcount0 : 0 ≤ (σ.1 45).toInt) (htcount1 : (σ.1 45).toInt ≤ 700) (hlength0 : 0 ≤ (σ.1 66).toInt) (hlength1 : (σ.1 66).toInt ≤ 700) (hnumbers0 : 0 ≤ (σ.1 65).toInt) (hnumbers1 : (σ.1 65).toInt ≤ 350) : Met l yX5_written v_z_written ({ frames := 2, cells := 0, slots := 0, locals := 43 } : Room) (va_Pc [.ref (ad 30)] (xPre D (xT y) (prw y ad σ) sz)) (va_Qi (fun (r : Int32) (u : Int32 × Int32 × Int32 × Int32 × (Nat → Int32) × Int32 × (Nat → Int32) × Int32) => 0 ≤ u.2.2.2.2.2.2.2.toInt ∧ u.2.2.2.2.2.2.2.toInt ≤ 700 ∧ 0 ≤ u.2.2.2.2.2.1.toInt ∧ u.2.2.2.2.2.1.toInt ≤ 350 ∧ (r.toInt = 0 ∨ r.toInt = 1)) (fun (u : Int32 × Int32 × Int32 × Int32 × (Nat → Int32) × Int32 × (Nat → Int32) × Int32) => xB D (xT y) (va_A (prw y ad σ) sz) (prw y ad (sI (tI (sI (tI (sI (sI (sI (sI σ 36 u.1) 37 u.2.1) 33 u.2.2.1) 34 u.2.2.2.1) 71 u.2.2.2.2.1) 65 u.2.2.2.2.2.1) 72 u.2.2.2.2.2.2.1) 66 u.2.2.2.2.2.2.2))) (va_A (prw y ad σ) sz)) 0 0 (va_A (prw y ad σ) sz) := by
  refine x_meti (cc := cX5_written) (maxL := 1) (by decide) rfl (Nat.le_of_ble_eq_true rfl) ?_
  intro p e s m below meth c A H locs Q hx hb hml hown hts hr hlocks hmn hA hP hK hD hS ls hl hQ
  have hl : lv_has ls 1 [(0, .ref (ad 30))] := hl
  have kk_0 : (0 : Int32).toInt = 0 := rfl
  have fl34 := hts (.fieldLink RX5 34 "SlopeRunner$Parser" "into" "LSlopeRunner$Program;") (List.mem_of_getElem? (i := 1) rfl)
  have inX5 : ∀ w ∈ wsX50, w ∈ v_z_written := (fun w h => List.mem_cons_of_mem _ (List.mem_append_right _ (List.mem_append_right _ (List.mem_append_right _ (List.mem_append_right _ (List.mem_append_right _ h))))))
  have fl12 := hts (.fieldLink RX5 12 "SlopeRunner$Parser" "tokens" "LSlopeRunner$Tokens;") (List.mem_of_getElem? (i := 2) rfl)
  have fl38 := hts (.fieldLink RX5 38 "SlopeRunner$Parser" "at" "I") (List.mem_of_getElem? (i := 3) rfl)
  have kk_1 : (1 : Int32).toInt = 1 := rfl
  refine lv_aload_n hx hb dX5_written_0 rfl (lv_at hl 0 rfl) ?_
  refine x_calliW (va_runV (As := []) (rest := []) ⟨hx, hb, hml, hown, hts⟩ (z_isNumber l D y H.size ad σ ) (cwV 0 hts g_z_written_0 rfl rfl rfl (by decide +kernel) ⟨Nat.le_of_ble_eq_true rfl, Nat.le_of_ble_eq_true rfl⟩) (x_preV (q := (RX5, TX5, 8)) hK hP hD (ci := 4) (q0 := 0) rfl prw_o0) rfl rfl hl.1 rfl (lv_room (Nat.le_of_ble_eq_true rfl)) dX5_written_1 ⟨Nat.le_of_ble_eq_true rfl, Nat.le_of_ble_eq_true rfl⟩) hP hD hS hA (fun r_1 u H locs hw hP hD hS => ?_)
  obtain ⟨n_2, n_3⟩ := u
  try dsimp only at hw
  have hP : va_P D vwCl (prw y ad (sI (sI σ 36 n_2) 37 n_3)) H := hP
  have hD : va_D A (prw y ad (sI (sI σ 36 n_2) 37 n_3)) := hD
  replace hw : r_1.toInt = 0 ∨ r_1.toInt = 1 := hw
  refine lv_if_ne (tgt := 9) hx hb dX5_written_4 (by decide) (fun c_4 => ?_) (fun c_4 => ?_)
  · have kc_4 : r_1.toInt ≠ 0 := by have h9 := c_4; simp only [ge_iff_le, gt_iff_lt, x_lt, x_le, x_eq, ne_eq, Int32.not_lt, Int32.not_le] at h9; simp only [Int32.reduceToInt] at h9; omega
    refine lv_aload_n hx hb dX5_written_9 rfl (lv_at hl 0 rfl) ?_
    refine va_get (D := D) (ci := 4) (v := .ref (ad 60)) (C := RX5) (T := TX5) (N := 8) hx hb hts inX5 hown hK hP 0 prw_o0 rfl 1 (by decide) fl34 (fun _ h9 => h9) rfl dX5_written_10 ?_
    refine lv_aload_n hx hb dX5_written_13 rfl (lv_at hl 0 rfl) ?_
    refine va_get (D := D) (ci := 4) (v := .ref (ad 40)) (C := RX5) (T := TX5) (N := 8) hx hb hts inX5 hown hK hP 0 prw_o0 rfl 0 (by decide) fl12 (fun _ h9 => h9) rfl dX5_written_14 ?_
    refine lv_aload_n hx hb dX5_written_17 rfl (lv_at hl 0 rfl) ?_
    refine va_get (D := D) (ci := 4) (v := .int (σ.1 33)) (C := RX5) (T := TX5) (N := 8) hx hb hts inX5 hown hK hP 0 prw_o0 rfl 2 (by decide) fl38 (fun _ h9 => h9) rfl dX5_written_18 ?_
    have hPs : va_P D vwCl (tow y ad (sI (sI σ 36 n_2) 37 n_3)) H := x_suP hP [1, 3, 4, 5, 6] rfl
    have hDs : va_D A (tow y ad (sI (sI σ 36 n_2) 37 n_3)) := x_suD hD [1, 3, 4, 5, 6] rfl (by decide)
    refine x_calllS (b1 := fun (u : Unit) => (prw y ad (sI (sI σ 36 n_2) 37 n_3))) [1, 3, 4, 5, 6] (va_runV (As := [.int (σ.1 33)]) (rest := [.ref (ad 60)]) ⟨hx, hb, hml, hown, hts⟩ (o1_worthAt l D y H.size ad (sI (sI σ 36 n_2) 37 n_3) (σ.1 33) (show 0 ≤ ((σ.1 45)).toInt from by first | omega | decide) (show ((σ.1 45)).toInt ≤ 700 from by first | omega | decide)) (cwV 1 hts g_z_written_1 rfl rfl rfl (by decide +kernel) ⟨Nat.le_of_ble_eq_true rfl, Nat.le_of_ble_eq_true rfl⟩) (x_preV (q := (RX10, TX10, 6)) hK hPs hDs (ci := 9) (q0 := 0) rfl tow_o0) rfl rfl hl.1 rfl (lv_room (Nat.le_of_ble_eq_true rfl)) dX5_written_21 ⟨Nat.le_of_ble_eq_true rfl, Nat.le_of_ble_eq_true rfl⟩) hP hD hS hA rfl (fun _ => rfl) (fun _ => rfl) (fun _ => rfl) (fun r_5 u H locs hw hP hD hS => ?_)
    try dsimp only at hw
    have hP : va_P D vwCl (prw y ad (sI (sI σ 36 n_2) 37 n_3)) H := hP
    have hD : va_D A (prw y ad (sI (sI σ 36 n_2) 37 n_3)) := hD
    refine lv_l2i hx hb dX5_written_24 rfl ?_
    refine lv_topi (fun i_6 ei_6 => ?_)
    have hPs : va_P D vwCl (pgw y ad (sI (sI σ 36 n_2) 37 n_3)) H := x_suP hP [2, 7, 8, 9, 10, 11, 12] rfl
    have hDs : va_D A (pgw y ad (sI (sI σ 36 n_2) 37 n_3)) := x_suD hD [2, 7, 8, 9, 10, 11, 12] rfl (by decide)
    refine x_callvS (b1 := fun (u : (Nat → Int32) × Int32 × (Nat → Int32) × Int32) => (prw y ad (sI (tI (sI (tI (sI (sI σ 36 n_2) 37 n_3) 71 u.1) 65 u.2.1) 72 u.2.2.1) 66 u.2.2.2))) [2, 7, 8, 9, 10, 11, 12] (va_runV (As := [.int i_6]) (rest := []) ⟨hx, hb, hml, hown, hts⟩ (w_emitNumber l D y H.size ad (sI (sI σ 36 n_2) 37 n_3) i_6 (show 0 ≤ ((σ.1 66)).toInt from by first | omega | decide) (show ((σ.1 66)).toInt ≤ 700 from by first | omega | decide) (show 0 ≤ ((σ.1 65)).toInt from by first | omega | decide) (show ((σ.1 65)).toInt ≤ 350 from by first | omega | decide)) (cwV 1 hts g_z_written_2 rfl rfl rfl (by decide +kernel) ⟨Nat.le_of_ble_eq_true rfl, Nat.le_of_ble_eq_true rfl⟩) (x_preV (q := (RX6, TX6, 13)) hK hPs hDs (ci := 5) (q0 := 0) rfl pgw_o0) rfl rfl hl.1 rfl (lv_room (Nat.le_of_ble_eq_true rfl)) dX5_written_25 ⟨Nat.le_of_ble_eq_true rfl, Nat.le_of_ble_eq_true rfl⟩) hP hD hS hA rfl (fun _ => rfl) (fun _ => rfl) (fun _ => rfl) (fun u H locs hw hP hD hS => ?_)
    obtain ⟨f_7, n_8, f_9, n_10⟩ := u
    try dsimp only at hw
    have hP : va_P D vwCl (prw y ad (sI (tI (sI (tI (sI (sI σ 36 n_2) 37 n_3) 71 f_7) 65 n_8) 72 f_9) 66 n_10)) H := hP
    have hD : va_D A (prw y ad (sI (tI (sI (tI (sI (sI σ 36 n_2) 37 n_3) 71 f_7) 65 n_8) 72 f_9) 66 n_10)) := hD
    replace hw : 0 ≤ n_10.toInt ∧ n_10.toInt ≤ 700 ∧ 0 ≤ n_8.toInt ∧ n_8.toInt ≤ 350 := hw
    refine lv_aload_n hx hb dX5_written_28 rfl (lv_at hl 0 rfl) ?_
    refine x_callvW (va_runV (As := []) (rest := []) ⟨hx, hb, hml, hown, hts⟩ (z_pass l D y H.size ad (sI (tI (sI (tI (sI (sI σ 36 n_2) 37 n_3) 71 f_7) 65 n_8) 72 f_9) 66 n_10) (show 0 ≤ ((σ.1 45)).toInt from by first | omega | decide) (show ((σ.1 45)).toInt ≤ 700 from by first | omega | decide)) (cwV 0 hts g_z_written_3 rfl rfl rfl (by decide +kernel) ⟨Nat.le_of_ble_eq_true rfl, Nat.le_of_ble_eq_true rfl⟩) (x_preV (q := (RX5, TX5, 8)) hK hP hD (ci := 4) (q0 := 0) rfl prw_o0) rfl rfl hl.1 rfl (lv_room (Nat.le_of_ble_eq_true rfl)) dX5_written_29 ⟨Nat.le_of_ble_eq_true rfl, Nat.le_of_ble_eq_true rfl⟩) hP hD hS hA (fun u H locs hw hP hD hS => ?_)
    obtain ⟨n_11, n_12⟩ := u
    try dsimp only at hw
    have hP : va_P D vwCl (prw y ad (sI (sI (sI (tI (sI (tI (sI (sI σ 36 n_2) 37 n_3) 71 f_7) 65 n_8) 72 f_9) 66 n_10) 33 n_11) 34 n_12)) H := hP
    have hD : va_D A (prw y ad (sI (sI (sI (tI (sI (tI (sI (sI σ 36 n_2) 37 n_3) 71 f_7) 65 n_8) 72 f_9) 66 n_10) 33 n_11) 34 n_12)) := hD
    replace hw : True := hw
    refine lv_iconst (v := 1) hx hb dX5_written_32 (by decide) ?_
    have hP : va_P D vwCl (prw y ad (sI (tI (sI (tI (sI (sI (sI (sI σ 36 n_2) 37 n_3) 33 n_11) 34 n_12) 71 f_7) 65 n_8) 72 f_9) 66 n_10)) H := hP
    have hD : va_D A (prw y ad (sI (tI (sI (tI (sI (sI (sI (sI σ 36 n_2) 37 n_3) 33 n_11) 34 n_12) 71 f_7) 65 n_8) 72 f_9) 66 n_10)) := hD
    exact x_zretW (v := 1) (u := (n_2, n_3, n_11, n_12, f_7, n_8, f_9, n_10)) hx hb hr hQ rfl (by (try dsimp only); exact ⟨by omega, by omega, by omega, by omega, (by first | decide | exact Or.inl hw | omega)⟩) hP hD hK hS dX5_written_33 hlocks
  · have kc_4 : r_1.toInt = 0 := by have h9 := c_4; simp only [ge_iff_le, gt_iff_lt, x_lt, x_le, x_eq, ne_eq, Int32.not_lt, Int32.not_le] at h9; simp only [Int32.reduceToInt] at h9; omega
    refine lv_iconst (v := 0) hx hb dX5_written_7 (by decide) ?_
    have hP : va_P D vwCl (prw y ad (sI (tI (sI (tI (sI (sI (sI (sI σ 36 n_2) 37 n_3) 33 (σ.1 33)) 34 (σ.1 34)) 71 (σ.2.2.1 71)) 65 (σ.1 65)) 72 (σ.2.2.1 72)) 66 (σ.1 66))) H := hP
    have hD : va_D A (prw y ad (sI (tI (sI (tI (sI (sI (sI (sI σ 36 n_2) 37 n_3) 33 (σ.1 33)) 34 (σ.1 34)) 71 (σ.2.2.1 71)) 65 (σ.1 65)) 72 (σ.2.2.1 72)) 66 (σ.1 66))) := hD
    exact x_zretW (v := 0) (u := (n_2, n_3, (σ.1 33), (σ.1 34), (σ.2.2.1 71), (σ.1 65), (σ.2.2.1 72), (σ.1 66))) hx hb hr hQ rfl (by (try dsimp only); exact ⟨by omega, by omega, by omega, by omega, (by first | decide | exact Or.inl hw | omega)⟩) hP hD hK hS dX5_written_8 hlocks

def v_z_declaration : List Cond := .code yX5_declaration cX5_declaration 2 (some .boolean) :: ([.fieldLink RX5 45 "SlopeRunner$Parser" "kind" "I"] ++ ((wsV RX5 89 RX5 yX5_isFull v_z_isFull) ++ ((wsV RX5 92 RX5 yX5_beginStatement v_z_beginStatement) ++ ((wsV RX5 95 RX5 yX5_newName v_z_newName) ++ ((wsV RX5 98 RX5 yX5_expect v_z_expect) ++ ((wsV RX5 101 RX5 yX5_placesOfRow v_z_placesOfRow) ++ ((wsV RX5 61 RX5 yX5_refuse v_z_refuse) ++ wsX50)))))))
theorem g_z_declaration_0 : GoodIn v_z_declaration (wsV RX5 89 RX5 yX5_isFull v_z_isFull) := goodIn_sub (fun w h => List.mem_cons_of_mem _ (List.mem_append_right _ (List.mem_append_left _ h))) (by decide +kernel)
theorem g_z_declaration_1 : GoodIn v_z_declaration (wsV RX5 92 RX5 yX5_beginStatement v_z_beginStatement) := goodIn_sub (fun w h => List.mem_cons_of_mem _ (List.mem_append_right _ (List.mem_append_right _ (List.mem_append_left _ h)))) (by decide +kernel)
theorem g_z_declaration_2 : GoodIn v_z_declaration (wsV RX5 95 RX5 yX5_newName v_z_newName) := goodIn_sub (fun w h => List.mem_cons_of_mem _ (List.mem_append_right _ (List.mem_append_right _ (List.mem_append_right _ (List.mem_append_left _ h))))) (by decide +kernel)
theorem g_z_declaration_3 : GoodIn v_z_declaration (wsV RX5 98 RX5 yX5_expect v_z_expect) := goodIn_sub (fun w h => List.mem_cons_of_mem _ (List.mem_append_right _ (List.mem_append_right _ (List.mem_append_right _ (List.mem_append_right _ (List.mem_append_left _ h)))))) (by decide +kernel)
theorem g_z_declaration_4 : GoodIn v_z_declaration (wsV RX5 101 RX5 yX5_placesOfRow v_z_placesOfRow) := goodIn_sub (fun w h => List.mem_cons_of_mem _ (List.mem_append_right _ (List.mem_append_right _ (List.mem_append_right _ (List.mem_append_right _ (List.mem_append_right _ (List.mem_append_left _ h))))))) (by decide +kernel)
theorem g_z_declaration_5 : GoodIn v_z_declaration (wsV RX5 61 RX5 yX5_refuse v_z_refuse) := goodIn_sub (fun w h => List.mem_cons_of_mem _ (List.mem_append_right _ (List.mem_append_right _ (List.mem_append_right _ (List.mem_append_right _ (List.mem_append_right _ (List.mem_append_right _ (List.mem_append_left _ h)))))))) (by decide +kernel)
set_option maxHeartbeats 4000000 in
set_option maxRecDepth 100000 in
theorem z_declaration (l : Launch) (D : va_G) (y : Nat → ClassId) (sz : Nat) (ad : Nat → Nat) (σ : OS) (htcount0 : 0 ≤ (σ.1 45).toInt) (htcount1 : (σ.1 45).toInt ≤ 700) (hinputs0 : 0 ≤ (σ.1 61).toInt) (hinputs1 : (σ.1 61).toInt ≤ 8) (hrows0 : 0 ≤ (σ.1 62).toInt) (hrows1 : (σ.1 62).toInt ≤ 4) (hnames0 : 0 ≤ (σ.1 68).toInt) (hnames1 : (σ.1 68).toInt ≤ 24) : Met l yX5_declaration v_z_declaration ({ frames := 3, cells := 0, slots := 0, locals := 67 } : Room) (va_Pc [.ref (ad 30)] (xPre D (xT y) (prw y ad σ) sz)) (va_Qi (fun (r : Int32) (u : Int32 × Int32 × Int32 × Int32 × Int32 × Int32 × Int32 × Int32 × Int32 × (Nat → Int64) × (Nat → Int32) × (Nat → Int32)) => 0 ≤ u.2.2.2.2.2.1.toInt ∧ u.2.2.2.2.2.1.toInt ≤ 8 ∧ 0 ≤ u.2.2.2.2.2.2.1.toInt ∧ u.2.2.2.2.2.2.1.toInt ≤ 4 ∧ 0 ≤ u.2.2.2.2.2.2.2.2.1.toInt ∧ u.2.2.2.2.2.2.2.2.1.toInt ≤ 24 ∧ (r.toInt = 0 ∨ r.toInt = 1)) (fun (u : Int32 × Int32 × Int32 × Int32 × Int32 × Int32 × Int32 × Int32 × Int32 × (Nat → Int64) × (Nat → Int32) × (Nat → Int32)) => xB D (xT y) (va_A (prw y ad σ) sz) (prw y ad (tI (tI (tJ (sI (sI (sI (sI (sI (sI (sI (sI (sI σ 36 u.1) 37 u.2.1) 33 u.2.2.1) 34 u.2.2.2.1) 64 u.2.2.2.2.1) 61 u.2.2.2.2.2.1) 62 u.2.2.2.2.2.2.1) 63 u.2.2.2.2.2.2.2.1) 68 u.2.2.2.2.2.2.2.2.1) 69 u.2.2.2.2.2.2.2.2.2.1) 70 u.2.2.2.2.2.2.2.2.2.2.1) 67 u.2.2.2.2.2.2.2.2.2.2.2))) (va_A (prw y ad σ) sz)) 0 0 (va_A (prw y ad σ) sz) := by
  refine x_meti (cc := cX5_declaration) (maxL := 2) (by decide) rfl (Nat.le_of_ble_eq_true rfl) ?_
  intro p e s m below meth c A H locs Q hx hb hml hown hts hr hlocks hmn hA hP hK hD hS ls hl hQ
  have hl : lv_has ls 2 [(0, .ref (ad 30))] := hl
  have fl45 := hts (.fieldLink RX5 45 "SlopeRunner$Parser" "kind" "I") (List.mem_of_getElem? (i := 1) rfl)
  have inX5 : ∀ w ∈ wsX50, w ∈ v_z_declaration := (fun w h => List.mem_cons_of_mem _ (List.mem_append_right _ (List.mem_append_right _ (List.mem_append_right _ (List.mem_append_right _ (List.mem_append_right _ (List.mem_append_right _ (List.mem_append_right _ h))))))))
  have kk_0 : (0 : Int32).toInt = 0 := rfl
  have kk_263 : (263 : Int32).toInt = 263 := rfl
  have kk_59 : (59 : Int32).toInt = 59 := rfl
  have kk_91 : (91 : Int32).toInt = 91 := rfl
  have kk_93 : (93 : Int32).toInt = 93 := rfl
  have kk_5 : (5 : Int32).toInt = 5 := rfl
  refine lv_aload_n hx hb dX5_declaration_0 rfl (lv_at hl 0 rfl) ?_
  refine va_get (D := D) (ci := 4) (v := .int (σ.1 34)) (C := RX5) (T := TX5) (N := 8) hx hb hts inX5 hown hK hP 0 prw_o0 rfl 3 (by decide) fl45 (fun _ h9 => h9) rfl dX5_declaration_1 ?_
  refine lv_istore_n (lv' := [(1, .int (σ.1 34)), (0, .ref (ad 30))]) hx hb dX5_declaration_4 rfl hl (by decide) rfl (fun ls hl => ?_)
  refine lv_aload_n hx hb dX5_declaration_5 rfl (lv_at hl 1 rfl) ?_
  refine lv_iload_n hx hb dX5_declaration_6 rfl (lv_at hl 0 rfl) ?_
  refine x_calliW (va_runV (As := [.int (σ.1 34)]) (rest := []) ⟨hx, hb, hml, hown, hts⟩ (z_isFull l D y H.size ad σ (σ.1 34)) (cwV 1 hts g_z_declaration_0 rfl rfl rfl (by decide +kernel) ⟨Nat.le_of_ble_eq_true rfl, Nat.le_of_ble_eq_true rfl⟩) (x_preV (q := (RX5, TX5, 8)) hK hP hD (ci := 4) (q0 := 0) rfl prw_o0) rfl rfl hl.1 rfl (lv_room (Nat.le_of_ble_eq_true rfl)) dX5_declaration_7 ⟨Nat.le_of_ble_eq_true rfl, Nat.le_of_ble_eq_true rfl⟩) hP hD hS hA (fun r_1 u H locs hw hP hD hS => ?_)
  try dsimp only at hw
  have hP : va_P D vwCl (prw y ad σ) H := hP
  have hD : va_D A (prw y ad σ) := hD
  replace hw : r_1.toInt = 1 ∨ (r_1.toInt = 0 ∧ ((σ.1 34).toInt ≠ 262 ∨ ((σ.1 61)).toInt ≤ 7) ∧ ((σ.1 34).toInt ≠ 263 ∨ ((σ.1 62)).toInt ≤ 3)) := hw
  have hif := hw
  refine lv_if_eq (tgt := 19) hx hb dX5_declaration_10 (by decide) (fun c_2 => ?_) (fun c_2 => ?_)
  · have kc_2 : r_1.toInt = 0 := by have h9 := c_2; simp only [ge_iff_le, gt_iff_lt, x_lt, x_le, x_eq, ne_eq, Int32.not_lt, Int32.not_le] at h9; simp only [Int32.reduceToInt] at h9; omega
    refine lv_aload_n hx hb dX5_declaration_19 rfl (lv_at hl 1 rfl) ?_
    refine x_callvW (va_runV (As := []) (rest := []) ⟨hx, hb, hml, hown, hts⟩ (z_beginStatement l D y H.size ad σ (show 0 ≤ ((σ.1 45)).toInt from by first | omega | decide) (show ((σ.1 45)).toInt ≤ 700 from by first | omega | decide)) (cwV 0 hts g_z_declaration_1 rfl rfl rfl (by decide +kernel) ⟨Nat.le_of_ble_eq_true rfl, Nat.le_of_ble_eq_true rfl⟩) (x_preV (q := (RX5, TX5, 8)) hK hP hD (ci := 4) (q0 := 0) rfl prw_o0) rfl rfl hl.1 rfl (lv_room (Nat.le_of_ble_eq_true rfl)) dX5_declaration_20 ⟨Nat.le_of_ble_eq_true rfl, Nat.le_of_ble_eq_true rfl⟩) hP hD hS hA (fun u H locs hw hP hD hS => ?_)
    obtain ⟨n_3, n_4, n_5⟩ := u
    try dsimp only at hw
    have hP : va_P D vwCl (prw y ad (sI (sI (sI σ 64 n_3) 33 n_4) 34 n_5)) H := hP
    have hD : va_D A (prw y ad (sI (sI (sI σ 64 n_3) 33 n_4) 34 n_5)) := hD
    replace hw : True := hw
    refine lv_aload_n hx hb dX5_declaration_23 rfl (lv_at hl 1 rfl) ?_
    refine lv_iload_n hx hb dX5_declaration_24 rfl (lv_at hl 0 rfl) ?_
    refine x_calliW (va_runV (As := [.int (σ.1 34)]) (rest := []) ⟨hx, hb, hml, hown, hts⟩ (z_newName l D y H.size ad (sI (sI (sI σ 64 n_3) 33 n_4) 34 n_5) (σ.1 34) (show (σ.1 34).toInt ≠ 262 ∨ ((σ.1 61)).toInt ≤ 7 from by first | omega | decide) (show (σ.1 34).toInt ≠ 263 ∨ ((σ.1 62)).toInt ≤ 3 from by first | omega | decide) (show 0 ≤ ((σ.1 45)).toInt from by first | omega | decide) (show ((σ.1 45)).toInt ≤ 700 from by first | omega | decide) (show 0 ≤ ((σ.1 61)).toInt from by first | omega | decide) (show ((σ.1 61)).toInt ≤ 8 from by first | omega | decide) (show 0 ≤ ((σ.1 62)).toInt from by first | omega | decide) (show ((σ.1 62)).toInt ≤ 4 from by first | omega | decide) (show 0 ≤ ((σ.1 68)).toInt from by first | omega | decide) (show ((σ.1 68)).toInt ≤ 24 from by first | omega | decide)) (cwV 1 hts g_z_declaration_2 rfl rfl rfl (by decide +kernel) ⟨Nat.le_of_ble_eq_true rfl, Nat.le_of_ble_eq_true rfl⟩) (x_preV (q := (RX5, TX5, 8)) hK hP hD (ci := 4) (q0 := 0) rfl prw_o0) rfl rfl hl.1 rfl (lv_room (Nat.le_of_ble_eq_true rfl)) dX5_declaration_25 ⟨Nat.le_of_ble_eq_true rfl, Nat.le_of_ble_eq_true rfl⟩) hP hD hS hA (fun r_6 u H locs hw hP hD hS => ?_)
    obtain ⟨n_7, n_8, n_9, n_10, n_11, n_12, n_13, n_14, f_15, f_16⟩ := u
    try dsimp only at hw
    have hP : va_P D vwCl (prw y ad (tI (tJ (sI (sI (sI (sI (sI (sI (sI (sI (sI (sI (sI σ 64 n_3) 33 n_4) 34 n_5) 36 n_7) 37 n_8) 33 n_9) 34 n_10) 61 n_11) 62 n_12) 63 n_13) 68 n_14) 69 f_15) 70 f_16)) H := hP
    have hD : va_D A (prw y ad (tI (tJ (sI (sI (sI (sI (sI (sI (sI (sI (sI (sI (sI σ 64 n_3) 33 n_4) 34 n_5) 36 n_7) 37 n_8) 33 n_9) 34 n_10) 61 n_11) 62 n_12) 63 n_13) 68 n_14) 69 f_15) 70 f_16)) := hD
    replace hw : 0 ≤ n_11.toInt ∧ n_11.toInt ≤ 8 ∧ 0 ≤ n_12.toInt ∧ n_12.toInt ≤ 4 ∧ 0 ≤ n_14.toInt ∧ n_14.toInt ≤ 24 ∧ (r_6.toInt = 0 ∨ r_6.toInt = 1) := hw
    have hnn := hw
    refine lv_if_ne (tgt := 33) hx hb dX5_declaration_28 (by decide) (fun c_17 => ?_) (fun c_17 => ?_)
    · have kc_17 : r_6.toInt ≠ 0 := by have h9 := c_17; simp only [ge_iff_le, gt_iff_lt, x_lt, x_le, x_eq, ne_eq, Int32.not_lt, Int32.not_le] at h9; simp only [Int32.reduceToInt] at h9; omega
      refine lv_iload_n hx hb dX5_declaration_33 rfl (lv_at hl 0 rfl) ?_
      refine lv_sipush (v := 263) hx hb dX5_declaration_34 (by decide) ?_
      refine lv_icmp_ne (tgt := 67) hx hb dX5_declaration_37 (by decide) (fun c_18 => ?_) (fun c_18 => ?_)
      · have kc_18 : (σ.1 34).toInt ≠ 263 := by have h9 := c_18; simp only [ge_iff_le, gt_iff_lt, x_lt, x_le, x_eq, ne_eq, Int32.not_lt, Int32.not_le] at h9; simp only [Int32.reduceToInt] at h9; omega
        refine lv_aload_n hx hb dX5_declaration_67 rfl (lv_at hl 1 rfl) ?_
        refine lv_bipush (v := 59) hx hb dX5_declaration_68 (by decide) ?_
        refine x_calliW (va_runV (As := [.int 59]) (rest := []) ⟨hx, hb, hml, hown, hts⟩ (z_expect l D y H.size ad (tI (tJ (sI (sI (sI (sI (sI (sI (sI (sI (sI (sI (sI σ 64 n_3) 33 n_4) 34 n_5) 36 n_7) 37 n_8) 33 n_9) 34 n_10) 61 n_11) 62 n_12) 63 n_13) 68 n_14) 69 f_15) 70 f_16) 59 (show 0 ≤ ((σ.1 45)).toInt from by first | omega | decide) (show ((σ.1 45)).toInt ≤ 700 from by first | omega | decide)) (cwV 1 hts g_z_declaration_3 rfl rfl rfl (by decide +kernel) ⟨Nat.le_of_ble_eq_true rfl, Nat.le_of_ble_eq_true rfl⟩) (x_preV (q := (RX5, TX5, 8)) hK hP hD (ci := 4) (q0 := 0) rfl prw_o0) rfl rfl hl.1 rfl (lv_room (Nat.le_of_ble_eq_true rfl)) dX5_declaration_70 ⟨Nat.le_of_ble_eq_true rfl, Nat.le_of_ble_eq_true rfl⟩) hP hD hS hA (fun r_19 u H locs hw hP hD hS => ?_)
        obtain ⟨n_20, n_21, n_22, n_23⟩ := u
        try dsimp only at hw
        have hP : va_P D vwCl (prw y ad (sI (sI (sI (sI (tI (tJ (sI (sI (sI (sI (sI (sI (sI (sI (sI (sI (sI σ 64 n_3) 33 n_4) 34 n_5) 36 n_7) 37 n_8) 33 n_9) 34 n_10) 61 n_11) 62 n_12) 63 n_13) 68 n_14) 69 f_15) 70 f_16) 33 n_20) 34 n_21) 36 n_22) 37 n_23)) H := hP
        have hD : va_D A (prw y ad (sI (sI (sI (sI (tI (tJ (sI (sI (sI (sI (sI (sI (sI (sI (sI (sI (sI σ 64 n_3) 33 n_4) 34 n_5) 36 n_7) 37 n_8) 33 n_9) 34 n_10) 61 n_11) 62 n_12) 63 n_13) 68 n_14) 69 f_15) 70 f_16) 33 n_20) 34 n_21) 36 n_22) 37 n_23)) := hD
        replace hw : r_19.toInt = 0 ∨ r_19.toInt = 1 := hw
        have hP : va_P D vwCl (prw y ad (tI (tI (tJ (sI (sI (sI (sI (sI (sI (sI (sI (sI σ 36 n_22) 37 n_23) 33 n_20) 34 n_21) 64 n_3) 61 n_11) 62 n_12) 63 n_13) 68 n_14) 69 f_15) 70 f_16) 67 (σ.2.2.1 67))) H := hP
        have hD : va_D A (prw y ad (tI (tI (tJ (sI (sI (sI (sI (sI (sI (sI (sI (sI σ 36 n_22) 37 n_23) 33 n_20) 34 n_21) 64 n_3) 61 n_11) 62 n_12) 63 n_13) 68 n_14) 69 f_15) 70 f_16) 67 (σ.2.2.1 67))) := hD
        exact x_zretW (v := r_19) (u := (n_22, n_23, n_20, n_21, n_3, n_11, n_12, n_13, n_14, f_15, f_16, (σ.2.2.1 67))) hx hb hr hQ (x_01 (by first | exact hw | exact Or.inl hw | omega)) (by (try dsimp only); exact ⟨by omega, by omega, by omega, by omega, by omega, by omega, (by first | decide | exact Or.inl hw | omega)⟩) hP hD hK hS dX5_declaration_73 hlocks
      · have kc_18 : (σ.1 34).toInt = 263 := by have h9 := c_18; simp only [ge_iff_le, gt_iff_lt, x_lt, x_le, x_eq, ne_eq, Int32.not_lt, Int32.not_le] at h9; simp only [Int32.reduceToInt] at h9; omega
        refine lv_aload_n hx hb dX5_declaration_40 rfl (lv_at hl 1 rfl) ?_
        refine lv_bipush (v := 91) hx hb dX5_declaration_41 (by decide) ?_
        refine x_calliW (va_runV (As := [.int 91]) (rest := []) ⟨hx, hb, hml, hown, hts⟩ (z_expect l D y H.size ad (tI (tJ (sI (sI (sI (sI (sI (sI (sI (sI (sI (sI (sI σ 64 n_3) 33 n_4) 34 n_5) 36 n_7) 37 n_8) 33 n_9) 34 n_10) 61 n_11) 62 n_12) 63 n_13) 68 n_14) 69 f_15) 70 f_16) 91 (show 0 ≤ ((σ.1 45)).toInt from by first | omega | decide) (show ((σ.1 45)).toInt ≤ 700 from by first | omega | decide)) (cwV 1 hts g_z_declaration_3 rfl rfl rfl (by decide +kernel) ⟨Nat.le_of_ble_eq_true rfl, Nat.le_of_ble_eq_true rfl⟩) (x_preV (q := (RX5, TX5, 8)) hK hP hD (ci := 4) (q0 := 0) rfl prw_o0) rfl rfl hl.1 rfl (lv_room (Nat.le_of_ble_eq_true rfl)) dX5_declaration_43 ⟨Nat.le_of_ble_eq_true rfl, Nat.le_of_ble_eq_true rfl⟩) hP hD hS hA (fun r_24 u H locs hw hP hD hS => ?_)
        obtain ⟨n_25, n_26, n_27, n_28⟩ := u
        try dsimp only at hw
        have hP : va_P D vwCl (prw y ad (sI (sI (sI (sI (tI (tJ (sI (sI (sI (sI (sI (sI (sI (sI (sI (sI (sI σ 64 n_3) 33 n_4) 34 n_5) 36 n_7) 37 n_8) 33 n_9) 34 n_10) 61 n_11) 62 n_12) 63 n_13) 68 n_14) 69 f_15) 70 f_16) 33 n_25) 34 n_26) 36 n_27) 37 n_28)) H := hP
        have hD : va_D A (prw y ad (sI (sI (sI (sI (tI (tJ (sI (sI (sI (sI (sI (sI (sI (sI (sI (sI (sI σ 64 n_3) 33 n_4) 34 n_5) 36 n_7) 37 n_8) 33 n_9) 34 n_10) 61 n_11) 62 n_12) 63 n_13) 68 n_14) 69 f_15) 70 f_16) 33 n_25) 34 n_26) 36 n_27) 37 n_28)) := hD
        replace hw : r_24.toInt = 0 ∨ r_24.toInt = 1 := hw
        refine lv_if_eq (tgt := 65) hx hb dX5_declaration_46 (by decide) (fun c_29 => ?_) (fun c_29 => ?_)
        · have kc_29 : r_24.toInt = 0 := by have h9 := c_29; simp only [ge_iff_le, gt_iff_lt, x_lt, x_le, x_eq, ne_eq, Int32.not_lt, Int32.not_le] at h9; simp only [Int32.reduceToInt] at h9; omega
          refine lv_iconst (v := 0) hx hb dX5_declaration_65 (by decide) ?_
          have hP : va_P D vwCl (prw y ad (tI (tI (tJ (sI (sI (sI (sI (sI (sI (sI (sI (sI σ 36 n_27) 37 n_28) 33 n_25) 34 n_26) 64 n_3) 61 n_11) 62 n_12) 63 n_13) 68 n_14) 69 f_15) 70 f_16) 67 (σ.2.2.1 67))) H := hP
          have hD : va_D A (prw y ad (tI (tI (tJ (sI (sI (sI (sI (sI (sI (sI (sI (sI σ 36 n_27) 37 n_28) 33 n_25) 34 n_26) 64 n_3) 61 n_11) 62 n_12) 63 n_13) 68 n_14) 69 f_15) 70 f_16) 67 (σ.2.2.1 67))) := hD
          exact x_zretW (v := 0) (u := (n_27, n_28, n_25, n_26, n_3, n_11, n_12, n_13, n_14, f_15, f_16, (σ.2.2.1 67))) hx hb hr hQ rfl (by (try dsimp only); exact ⟨by omega, by omega, by omega, by omega, by omega, by omega, (by first | decide | exact Or.inl hw | omega)⟩) hP hD hK hS dX5_declaration_66 hlocks
        · have kc_29 : r_24.toInt ≠ 0 := by have h9 := c_29; simp only [ge_iff_le, gt_iff_lt, x_lt, x_le, x_eq, ne_eq, Int32.not_lt, Int32.not_le] at h9; simp only [Int32.reduceToInt] at h9; omega
          refine lv_aload_n hx hb dX5_declaration_49 rfl (lv_at hl 1 rfl) ?_
          refine x_calliW (va_runV (As := []) (rest := []) ⟨hx, hb, hml, hown, hts⟩ (z_placesOfRow l D y H.size ad (sI (sI (sI (sI (tI (tJ (sI (sI (sI (sI (sI (sI (sI (sI (sI (sI (sI σ 64 n_3) 33 n_4) 34 n_5) 36 n_7) 37 n_8) 33 n_9) 34 n_10) 61 n_11) 62 n_12) 63 n_13) 68 n_14) 69 f_15) 70 f_16) 33 n_25) 34 n_26) 36 n_27) 37 n_28) (show 0 ≤ ((σ.1 45)).toInt from by first | omega | decide) (show ((σ.1 45)).toInt ≤ 700 from by first | omega | decide)) (cwV 0 hts g_z_declaration_4 rfl rfl rfl (by decide +kernel) ⟨Nat.le_of_ble_eq_true rfl, Nat.le_of_ble_eq_true rfl⟩) (x_preV (q := (RX5, TX5, 8)) hK hP hD (ci := 4) (q0 := 0) rfl prw_o0) rfl rfl hl.1 rfl (lv_room (Nat.le_of_ble_eq_true rfl)) dX5_declaration_50 ⟨Nat.le_of_ble_eq_true rfl, Nat.le_of_ble_eq_true rfl⟩) hP hD hS hA (fun r_30 u H locs hw hP hD hS => ?_)
          obtain ⟨n_31, n_32, n_33, n_34, f_35⟩ := u
          try dsimp only at hw
          have hP : va_P D vwCl (prw y ad (tI (sI (sI (sI (sI (sI (sI (sI (sI (tI (tJ (sI (sI (sI (sI (sI (sI (sI (sI (sI (sI (sI σ 64 n_3) 33 n_4) 34 n_5) 36 n_7) 37 n_8) 33 n_9) 34 n_10) 61 n_11) 62 n_12) 63 n_13) 68 n_14) 69 f_15) 70 f_16) 33 n_25) 34 n_26) 36 n_27) 37 n_28) 36 n_31) 37 n_32) 33 n_33) 34 n_34) 67 f_35)) H := hP
          have hD : va_D A (prw y ad (tI (sI (sI (sI (sI (sI (sI (sI (sI (tI (tJ (sI (sI (sI (sI (sI (sI (sI (sI (sI (sI (sI σ 64 n_3) 33 n_4) 34 n_5) 36 n_7) 37 n_8) 33 n_9) 34 n_10) 61 n_11) 62 n_12) 63 n_13) 68 n_14) 69 f_15) 70 f_16) 33 n_25) 34 n_26) 36 n_27) 37 n_28) 36 n_31) 37 n_32) 33 n_33) 34 n_34) 67 f_35)) := hD
          replace hw : r_30.toInt = 0 ∨ r_30.toInt = 1 := hw
          refine lv_if_eq (tgt := 65) hx hb dX5_declaration_53 (by decide) (fun c_36 => ?_) (fun c_36 => ?_)
          · have kc_36 : r_30.toInt = 0 := by have h9 := c_36; simp only [ge_iff_le, gt_iff_lt, x_lt, x_le, x_eq, ne_eq, Int32.not_lt, Int32.not_le] at h9; simp only [Int32.reduceToInt] at h9; omega
            refine lv_iconst (v := 0) hx hb dX5_declaration_65 (by decide) ?_
            have hP : va_P D vwCl (prw y ad (tI (tI (tJ (sI (sI (sI (sI (sI (sI (sI (sI (sI σ 36 n_31) 37 n_32) 33 n_33) 34 n_34) 64 n_3) 61 n_11) 62 n_12) 63 n_13) 68 n_14) 69 f_15) 70 f_16) 67 f_35)) H := hP
            have hD : va_D A (prw y ad (tI (tI (tJ (sI (sI (sI (sI (sI (sI (sI (sI (sI σ 36 n_31) 37 n_32) 33 n_33) 34 n_34) 64 n_3) 61 n_11) 62 n_12) 63 n_13) 68 n_14) 69 f_15) 70 f_16) 67 f_35)) := hD
            exact x_zretW (v := 0) (u := (n_31, n_32, n_33, n_34, n_3, n_11, n_12, n_13, n_14, f_15, f_16, f_35)) hx hb hr hQ rfl (by (try dsimp only); exact ⟨by omega, by omega, by omega, by omega, by omega, by omega, (by first | decide | exact Or.inl hw | omega)⟩) hP hD hK hS dX5_declaration_66 hlocks
          · have kc_36 : r_30.toInt ≠ 0 := by have h9 := c_36; simp only [ge_iff_le, gt_iff_lt, x_lt, x_le, x_eq, ne_eq, Int32.not_lt, Int32.not_le] at h9; simp only [Int32.reduceToInt] at h9; omega
            refine lv_aload_n hx hb dX5_declaration_56 rfl (lv_at hl 1 rfl) ?_
            refine lv_bipush (v := 93) hx hb dX5_declaration_57 (by decide) ?_
            refine x_calliW (va_runV (As := [.int 93]) (rest := []) ⟨hx, hb, hml, hown, hts⟩ (z_expect l D y H.size ad (tI (sI (sI (sI (sI (sI (sI (sI (sI (tI (tJ (sI (sI (sI (sI (sI (sI (sI (sI (sI (sI (sI σ 64 n_3) 33 n_4) 34 n_5) 36 n_7) 37 n_8) 33 n_9) 34 n_10) 61 n_11) 62 n_12) 63 n_13) 68 n_14) 69 f_15) 70 f_16) 33 n_25) 34 n_26) 36 n_27) 37 n_28) 36 n_31) 37 n_32) 33 n_33) 34 n_34) 67 f_35) 93 (show 0 ≤ ((σ.1 45)).toInt from by first | omega | decide) (show ((σ.1 45)).toInt ≤ 700 from by first | omega | decide)) (cwV 1 hts g_z_declaration_3 rfl rfl rfl (by decide +kernel) ⟨Nat.le_of_ble_eq_true rfl, Nat.le_of_ble_eq_true rfl⟩) (x_preV (q := (RX5, TX5, 8)) hK hP hD (ci := 4) (q0 := 0) rfl prw_o0) rfl rfl hl.1 rfl (lv_room (Nat.le_of_ble_eq_true rfl)) dX5_declaration_59 ⟨Nat.le_of_ble_eq_true rfl, Nat.le_of_ble_eq_true rfl⟩) hP hD hS hA (fun r_37 u H locs hw hP hD hS => ?_)
            obtain ⟨n_38, n_39, n_40, n_41⟩ := u
            try dsimp only at hw
            have hP : va_P D vwCl (prw y ad (sI (sI (sI (sI (tI (sI (sI (sI (sI (sI (sI (sI (sI (tI (tJ (sI (sI (sI (sI (sI (sI (sI (sI (sI (sI (sI σ 64 n_3) 33 n_4) 34 n_5) 36 n_7) 37 n_8) 33 n_9) 34 n_10) 61 n_11) 62 n_12) 63 n_13) 68 n_14) 69 f_15) 70 f_16) 33 n_25) 34 n_26) 36 n_27) 37 n_28) 36 n_31) 37 n_32) 33 n_33) 34 n_34) 67 f_35) 33 n_38) 34 n_39) 36 n_40) 37 n_41)) H := hP
            have hD : va_D A (prw y ad (sI (sI (sI (sI (tI (sI (sI (sI (sI (sI (sI (sI (sI (tI (tJ (sI (sI (sI (sI (sI (sI (sI (sI (sI (sI (sI σ 64 n_3) 33 n_4) 34 n_5) 36 n_7) 37 n_8) 33 n_9) 34 n_10) 61 n_11) 62 n_12) 63 n_13) 68 n_14) 69 f_15) 70 f_16) 33 n_25) 34 n_26) 36 n_27) 37 n_28) 36 n_31) 37 n_32) 33 n_33) 34 n_34) 67 f_35) 33 n_38) 34 n_39) 36 n_40) 37 n_41)) := hD
            replace hw : r_37.toInt = 0 ∨ r_37.toInt = 1 := hw
            refine lv_if_ne (tgt := 67) hx hb dX5_declaration_62 (by decide) (fun c_42 => ?_) (fun c_42 => ?_)
            · have kc_42 : r_37.toInt ≠ 0 := by have h9 := c_42; simp only [ge_iff_le, gt_iff_lt, x_lt, x_le, x_eq, ne_eq, Int32.not_lt, Int32.not_le] at h9; simp only [Int32.reduceToInt] at h9; omega
              refine lv_aload_n hx hb dX5_declaration_67 rfl (lv_at hl 1 rfl) ?_
              refine lv_bipush (v := 59) hx hb dX5_declaration_68 (by decide) ?_
              refine x_calliW (va_runV (As := [.int 59]) (rest := []) ⟨hx, hb, hml, hown, hts⟩ (z_expect l D y H.size ad (sI (sI (sI (sI (tI (sI (sI (sI (sI (sI (sI (sI (sI (tI (tJ (sI (sI (sI (sI (sI (sI (sI (sI (sI (sI (sI σ 64 n_3) 33 n_4) 34 n_5) 36 n_7) 37 n_8) 33 n_9) 34 n_10) 61 n_11) 62 n_12) 63 n_13) 68 n_14) 69 f_15) 70 f_16) 33 n_25) 34 n_26) 36 n_27) 37 n_28) 36 n_31) 37 n_32) 33 n_33) 34 n_34) 67 f_35) 33 n_38) 34 n_39) 36 n_40) 37 n_41) 59 (show 0 ≤ ((σ.1 45)).toInt from by first | omega | decide) (show ((σ.1 45)).toInt ≤ 700 from by first | omega | decide)) (cwV 1 hts g_z_declaration_3 rfl rfl rfl (by decide +kernel) ⟨Nat.le_of_ble_eq_true rfl, Nat.le_of_ble_eq_true rfl⟩) (x_preV (q := (RX5, TX5, 8)) hK hP hD (ci := 4) (q0 := 0) rfl prw_o0) rfl rfl hl.1 rfl (lv_room (Nat.le_of_ble_eq_true rfl)) dX5_declaration_70 ⟨Nat.le_of_ble_eq_true rfl, Nat.le_of_ble_eq_true rfl⟩) hP hD hS hA (fun r_43 u H locs hw hP hD hS => ?_)
              obtain ⟨n_44, n_45, n_46, n_47⟩ := u
              try dsimp only at hw
              have hP : va_P D vwCl (prw y ad (sI (sI (sI (sI (sI (sI (sI (sI (tI (sI (sI (sI (sI (sI (sI (sI (sI (tI (tJ (sI (sI (sI (sI (sI (sI (sI (sI (sI (sI (sI σ 64 n_3) 33 n_4) 34 n_5) 36 n_7) 37 n_8) 33 n_9) 34 n_10) 61 n_11) 62 n_12) 63 n_13) 68 n_14) 69 f_15) 70 f_16) 33 n_25) 34 n_26) 36 n_27) 37 n_28) 36 n_31) 37 n_32) 33 n_33) 34 n_34) 67 f_35) 33 n_38) 34 n_39) 36 n_40) 37 n_41) 33 n_44) 34 n_45) 36 n_46) 37 n_47)) H := hP
              have hD : va_D A (prw y ad (sI (sI (sI (sI (sI (sI (sI (sI (tI (sI (sI (sI (sI (sI (sI (sI (sI (tI (tJ (sI (sI (sI (sI (sI (sI (sI (sI (sI (sI (sI σ 64 n_3) 33 n_4) 34 n_5) 36 n_7) 37 n_8) 33 n_9) 34 n_10) 61 n_11) 62 n_12) 63 n_13) 68 n_14) 69 f_15) 70 f_16) 33 n_25) 34 n_26) 36 n_27) 37 n_28) 36 n_31) 37 n_32) 33 n_33) 34 n_34) 67 f_35) 33 n_38) 34 n_39) 36 n_40) 37 n_41) 33 n_44) 34 n_45) 36 n_46) 37 n_47)) := hD
              replace hw : r_43.toInt = 0 ∨ r_43.toInt = 1 := hw
              have hP : va_P D vwCl (prw y ad (tI (tI (tJ (sI (sI (sI (sI (sI (sI (sI (sI (sI σ 36 n_46) 37 n_47) 33 n_44) 34 n_45) 64 n_3) 61 n_11) 62 n_12) 63 n_13) 68 n_14) 69 f_15) 70 f_16) 67 f_35)) H := hP
              have hD : va_D A (prw y ad (tI (tI (tJ (sI (sI (sI (sI (sI (sI (sI (sI (sI σ 36 n_46) 37 n_47) 33 n_44) 34 n_45) 64 n_3) 61 n_11) 62 n_12) 63 n_13) 68 n_14) 69 f_15) 70 f_16) 67 f_35)) := hD
              exact x_zretW (v := r_43) (u := (n_46, n_47, n_44, n_45, n_3, n_11, n_12, n_13, n_14, f_15, f_16, f_35)) hx hb hr hQ (x_01 (by first | exact hw | exact Or.inl hw | omega)) (by (try dsimp only); exact ⟨by omega, by omega, by omega, by omega, by omega, by omega, (by first | decide | exact Or.inl hw | omega)⟩) hP hD hK hS dX5_declaration_73 hlocks
            · have kc_42 : r_37.toInt = 0 := by have h9 := c_42; simp only [ge_iff_le, gt_iff_lt, x_lt, x_le, x_eq, ne_eq, Int32.not_lt, Int32.not_le] at h9; simp only [Int32.reduceToInt] at h9; omega
              refine lv_iconst (v := 0) hx hb dX5_declaration_65 (by decide) ?_
              have hP : va_P D vwCl (prw y ad (tI (tI (tJ (sI (sI (sI (sI (sI (sI (sI (sI (sI σ 36 n_40) 37 n_41) 33 n_38) 34 n_39) 64 n_3) 61 n_11) 62 n_12) 63 n_13) 68 n_14) 69 f_15) 70 f_16) 67 f_35)) H := hP
              have hD : va_D A (prw y ad (tI (tI (tJ (sI (sI (sI (sI (sI (sI (sI (sI (sI σ 36 n_40) 37 n_41) 33 n_38) 34 n_39) 64 n_3) 61 n_11) 62 n_12) 63 n_13) 68 n_14) 69 f_15) 70 f_16) 67 f_35)) := hD
              exact x_zretW (v := 0) (u := (n_40, n_41, n_38, n_39, n_3, n_11, n_12, n_13, n_14, f_15, f_16, f_35)) hx hb hr hQ rfl (by (try dsimp only); exact ⟨by omega, by omega, by omega, by omega, by omega, by omega, (by first | decide | exact Or.inl hw | omega)⟩) hP hD hK hS dX5_declaration_66 hlocks
    · have kc_17 : r_6.toInt = 0 := by have h9 := c_17; simp only [ge_iff_le, gt_iff_lt, x_lt, x_le, x_eq, ne_eq, Int32.not_lt, Int32.not_le] at h9; simp only [Int32.reduceToInt] at h9; omega
      refine lv_iconst (v := 0) hx hb dX5_declaration_31 (by decide) ?_
      have hP : va_P D vwCl (prw y ad (tI (tI (tJ (sI (sI (sI (sI (sI (sI (sI (sI (sI σ 36 n_7) 37 n_8) 33 n_9) 34 n_10) 64 n_3) 61 n_11) 62 n_12) 63 n_13) 68 n_14) 69 f_15) 70 f_16) 67 (σ.2.2.1 67))) H := hP
      have hD : va_D A (prw y ad (tI (tI (tJ (sI (sI (sI (sI (sI (sI (sI (sI (sI σ 36 n_7) 37 n_8) 33 n_9) 34 n_10) 64 n_3) 61 n_11) 62 n_12) 63 n_13) 68 n_14) 69 f_15) 70 f_16) 67 (σ.2.2.1 67))) := hD
      exact x_zretW (v := 0) (u := (n_7, n_8, n_9, n_10, n_3, n_11, n_12, n_13, n_14, f_15, f_16, (σ.2.2.1 67))) hx hb hr hQ rfl (by (try dsimp only); exact ⟨by omega, by omega, by omega, by omega, by omega, by omega, (by first | decide | exact Or.inl hw | omega)⟩) hP hD hK hS dX5_declaration_32 hlocks
  · have kc_2 : r_1.toInt ≠ 0 := by have h9 := c_2; simp only [ge_iff_le, gt_iff_lt, x_lt, x_le, x_eq, ne_eq, Int32.not_lt, Int32.not_le] at h9; simp only [Int32.reduceToInt] at h9; omega
    refine lv_aload_n hx hb dX5_declaration_13 rfl (lv_at hl 1 rfl) ?_
    refine lv_iconst (v := 5) hx hb dX5_declaration_14 (by decide) ?_
    refine x_calliW (va_runV (As := [.int 5]) (rest := []) ⟨hx, hb, hml, hown, hts⟩ (z_refuse l D y H.size ad σ 5) (cwV 1 hts g_z_declaration_5 rfl rfl rfl (by decide +kernel) ⟨Nat.le_of_ble_eq_true rfl, Nat.le_of_ble_eq_true rfl⟩) (x_preV (q := (RX5, TX5, 8)) hK hP hD (ci := 4) (q0 := 0) rfl prw_o0) rfl rfl hl.1 rfl (lv_room (Nat.le_of_ble_eq_true rfl)) dX5_declaration_15 ⟨Nat.le_of_ble_eq_true rfl, Nat.le_of_ble_eq_true rfl⟩) hP hD hS hA (fun r_48 u H locs hw hP hD hS => ?_)
    obtain ⟨n_49, n_50⟩ := u
    try dsimp only at hw
    have hP : va_P D vwCl (prw y ad (sI (sI σ 36 n_49) 37 n_50)) H := hP
    have hD : va_D A (prw y ad (sI (sI σ 36 n_49) 37 n_50)) := hD
    replace hw : r_48.toInt = 0 := hw
    have hP : va_P D vwCl (prw y ad (tI (tI (tJ (sI (sI (sI (sI (sI (sI (sI (sI (sI σ 36 n_49) 37 n_50) 33 (σ.1 33)) 34 (σ.1 34)) 64 (σ.1 64)) 61 (σ.1 61)) 62 (σ.1 62)) 63 (σ.1 63)) 68 (σ.1 68)) 69 (σ.2.2.2 69)) 70 (σ.2.2.1 70)) 67 (σ.2.2.1 67))) H := hP
    have hD : va_D A (prw y ad (tI (tI (tJ (sI (sI (sI (sI (sI (sI (sI (sI (sI σ 36 n_49) 37 n_50) 33 (σ.1 33)) 34 (σ.1 34)) 64 (σ.1 64)) 61 (σ.1 61)) 62 (σ.1 62)) 63 (σ.1 63)) 68 (σ.1 68)) 69 (σ.2.2.2 69)) 70 (σ.2.2.1 70)) 67 (σ.2.2.1 67))) := hD
    exact x_zretW (v := r_48) (u := (n_49, n_50, (σ.1 33), (σ.1 34), (σ.1 64), (σ.1 61), (σ.1 62), (σ.1 63), (σ.1 68), (σ.2.2.2 69), (σ.2.2.1 70), (σ.2.2.1 67))) hx hb hr hQ (x_01 (by first | exact hw | exact Or.inl hw | omega)) (by (try dsimp only); exact ⟨by omega, by omega, by omega, by omega, by omega, by omega, (by first | decide | exact Or.inl hw | omega)⟩) hP hD hK hS dX5_declaration_18 hlocks

