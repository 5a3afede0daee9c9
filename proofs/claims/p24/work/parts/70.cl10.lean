abbrev prx_f0 (y : Nat → ClassId) (ad : Nat → Nat) (σ : OS) : List Value := [.ref (ad 40), .ref (ad 60), .int (σ.1 33), .int (σ.1 34), .int (σ.1 35), .int (σ.1 36), .int (σ.1 37), .int (σ.1 38)]
abbrev prx_f1 (y : Nat → ClassId) (ad : Nat → Nat) (σ : OS) : List Value := [.ref (ad 41), .ref (ad 42), .ref (ad 43), .ref (ad 44), .int (σ.1 45), .int (σ.1 46)]
abbrev prx_f2 (y : Nat → ClassId) (ad : Nat → Nat) (σ : OS) : List Value := [.ref (ad 21), .int (σ.1 22)]
abbrev prx_f3 (y : Nat → ClassId) (ad : Nat → Nat) (σ : OS) : List Value := [.int (σ.1 61), .int (σ.1 62), .int (σ.1 63), .int (σ.1 64), .int (σ.1 65), .int (σ.1 66), .ref (ad 67), .int (σ.1 68), .ref (ad 69), .ref (ad 70), .ref (ad 71), .ref (ad 72), .ref (ad 73)]
def prx (y : Nat → ClassId) (ad : Nat → Nat) (σ : OS) : va_W := [((ad 30), .inr (4, prx_f0 y ad σ)), ((ad 40), .inr (9, prx_f1 y ad σ)), ((ad 20), .inr (8, prx_f2 y ad σ)), ((ad 60), .inr (5, prx_f3 y ad σ)), (ad 41, .inl (y 3, 14, .inr (.inl (σ.2.2.2 41)))), (ad 42, .inl (y 2, 700, .inl (σ.2.2.1 42))), (ad 43, .inl (y 2, 700, .inl (σ.2.2.1 43))), (ad 44, .inl (y 3, 700, .inr (.inl (σ.2.2.2 44)))), (ad 21, .inl (y 0, 700, .inl (σ.2.2.1 21))), (ad 67, .inl (y 2, 4, .inl (σ.2.2.1 67))), (ad 69, .inl (y 3, 24, .inr (.inl (σ.2.2.2 69)))), (ad 70, .inl (y 2, 24, .inl (σ.2.2.1 70))), (ad 71, .inl (y 2, 350, .inl (σ.2.2.1 71))), (ad 72, .inl (y 2, 700, .inl (σ.2.2.1 72))), (ad 73, .inl (y 2, 700, .inl (σ.2.2.1 73)))]
theorem prx_o0 {y : Nat → ClassId} {ad : Nat → Nat} {σ : OS} : (prx y ad σ)[0]? = some ((ad 30), .inr (4, prx_f0 y ad σ)) := rfl
theorem prx_p0_2 {y : Nat → ClassId} {ad : Nat → Nat} {σ : OS} {v : Int32} : (prx y ad σ).set 0 ((ad 30), .inr (4, (prx_f0 y ad σ).set 2 (.int v))) = prx y ad (sI σ 33 v) := rfl
theorem prx_p0_3 {y : Nat → ClassId} {ad : Nat → Nat} {σ : OS} {v : Int32} : (prx y ad σ).set 0 ((ad 30), .inr (4, (prx_f0 y ad σ).set 3 (.int v))) = prx y ad (sI σ 34 v) := rfl
theorem prx_p0_4 {y : Nat → ClassId} {ad : Nat → Nat} {σ : OS} {v : Int32} : (prx y ad σ).set 0 ((ad 30), .inr (4, (prx_f0 y ad σ).set 4 (.int v))) = prx y ad (sI σ 35 v) := rfl
theorem prx_p0_5 {y : Nat → ClassId} {ad : Nat → Nat} {σ : OS} {v : Int32} : (prx y ad σ).set 0 ((ad 30), .inr (4, (prx_f0 y ad σ).set 5 (.int v))) = prx y ad (sI σ 36 v) := rfl
theorem prx_p0_6 {y : Nat → ClassId} {ad : Nat → Nat} {σ : OS} {v : Int32} : (prx y ad σ).set 0 ((ad 30), .inr (4, (prx_f0 y ad σ).set 6 (.int v))) = prx y ad (sI σ 37 v) := rfl
theorem prx_p0_7 {y : Nat → ClassId} {ad : Nat → Nat} {σ : OS} {v : Int32} : (prx y ad σ).set 0 ((ad 30), .inr (4, (prx_f0 y ad σ).set 7 (.int v))) = prx y ad (sI σ 38 v) := rfl
theorem prx_o1 {y : Nat → ClassId} {ad : Nat → Nat} {σ : OS} : (prx y ad σ)[1]? = some ((ad 40), .inr (9, prx_f1 y ad σ)) := rfl
theorem prx_p1_4 {y : Nat → ClassId} {ad : Nat → Nat} {σ : OS} {v : Int32} : (prx y ad σ).set 1 ((ad 40), .inr (9, (prx_f1 y ad σ).set 4 (.int v))) = prx y ad (sI σ 45 v) := rfl
theorem prx_p1_5 {y : Nat → ClassId} {ad : Nat → Nat} {σ : OS} {v : Int32} : (prx y ad σ).set 1 ((ad 40), .inr (9, (prx_f1 y ad σ).set 5 (.int v))) = prx y ad (sI σ 46 v) := rfl
theorem prx_o2 {y : Nat → ClassId} {ad : Nat → Nat} {σ : OS} : (prx y ad σ)[2]? = some ((ad 20), .inr (8, prx_f2 y ad σ)) := rfl
theorem prx_p2_1 {y : Nat → ClassId} {ad : Nat → Nat} {σ : OS} {v : Int32} : (prx y ad σ).set 2 ((ad 20), .inr (8, (prx_f2 y ad σ).set 1 (.int v))) = prx y ad (sI σ 22 v) := rfl
theorem prx_o3 {y : Nat → ClassId} {ad : Nat → Nat} {σ : OS} : (prx y ad σ)[3]? = some ((ad 60), .inr (5, prx_f3 y ad σ)) := rfl
theorem prx_p3_0 {y : Nat → ClassId} {ad : Nat → Nat} {σ : OS} {v : Int32} : (prx y ad σ).set 3 ((ad 60), .inr (5, (prx_f3 y ad σ).set 0 (.int v))) = prx y ad (sI σ 61 v) := rfl
theorem prx_p3_1 {y : Nat → ClassId} {ad : Nat → Nat} {σ : OS} {v : Int32} : (prx y ad σ).set 3 ((ad 60), .inr (5, (prx_f3 y ad σ).set 1 (.int v))) = prx y ad (sI σ 62 v) := rfl
theorem prx_p3_2 {y : Nat → ClassId} {ad : Nat → Nat} {σ : OS} {v : Int32} : (prx y ad σ).set 3 ((ad 60), .inr (5, (prx_f3 y ad σ).set 2 (.int v))) = prx y ad (sI σ 63 v) := rfl
theorem prx_p3_3 {y : Nat → ClassId} {ad : Nat → Nat} {σ : OS} {v : Int32} : (prx y ad σ).set 3 ((ad 60), .inr (5, (prx_f3 y ad σ).set 3 (.int v))) = prx y ad (sI σ 64 v) := rfl
theorem prx_p3_4 {y : Nat → ClassId} {ad : Nat → Nat} {σ : OS} {v : Int32} : (prx y ad σ).set 3 ((ad 60), .inr (5, (prx_f3 y ad σ).set 4 (.int v))) = prx y ad (sI σ 65 v) := rfl
theorem prx_p3_5 {y : Nat → ClassId} {ad : Nat → Nat} {σ : OS} {v : Int32} : (prx y ad σ).set 3 ((ad 60), .inr (5, (prx_f3 y ad σ).set 5 (.int v))) = prx y ad (sI σ 66 v) := rfl
theorem prx_p3_7 {y : Nat → ClassId} {ad : Nat → Nat} {σ : OS} {v : Int32} : (prx y ad σ).set 3 ((ad 60), .inr (5, (prx_f3 y ad σ).set 7 (.int v))) = prx y ad (sI σ 68 v) := rfl
theorem prx_a4 {y : Nat → ClassId} {ad : Nat → Nat} {σ : OS} : (prx y ad σ)[4]? = some (ad 41, .inl (y 3, 14, .inr (.inl (σ.2.2.2 41)))) := rfl
theorem prx_s4 {y : Nat → ClassId} {ad : Nat → Nat} {σ : OS} {g : Nat → Int64} : (prx y ad σ).set 4 (ad 41, .inl (y 3, 14, .inr (.inl g))) = prx y ad (tJ σ 41 g) := rfl
theorem prx_a5 {y : Nat → ClassId} {ad : Nat → Nat} {σ : OS} : (prx y ad σ)[5]? = some (ad 42, .inl (y 2, 700, .inl (σ.2.2.1 42))) := rfl
theorem prx_s5 {y : Nat → ClassId} {ad : Nat → Nat} {σ : OS} {g : Nat → Int32} : (prx y ad σ).set 5 (ad 42, .inl (y 2, 700, .inl g)) = prx y ad (tI σ 42 g) := rfl
theorem prx_a6 {y : Nat → ClassId} {ad : Nat → Nat} {σ : OS} : (prx y ad σ)[6]? = some (ad 43, .inl (y 2, 700, .inl (σ.2.2.1 43))) := rfl
theorem prx_s6 {y : Nat → ClassId} {ad : Nat → Nat} {σ : OS} {g : Nat → Int32} : (prx y ad σ).set 6 (ad 43, .inl (y 2, 700, .inl g)) = prx y ad (tI σ 43 g) := rfl
theorem prx_a7 {y : Nat → ClassId} {ad : Nat → Nat} {σ : OS} : (prx y ad σ)[7]? = some (ad 44, .inl (y 3, 700, .inr (.inl (σ.2.2.2 44)))) := rfl
theorem prx_s7 {y : Nat → ClassId} {ad : Nat → Nat} {σ : OS} {g : Nat → Int64} : (prx y ad σ).set 7 (ad 44, .inl (y 3, 700, .inr (.inl g))) = prx y ad (tJ σ 44 g) := rfl
theorem prx_a8 {y : Nat → ClassId} {ad : Nat → Nat} {σ : OS} : (prx y ad σ)[8]? = some (ad 21, .inl (y 0, 700, .inl (σ.2.2.1 21))) := rfl
theorem prx_s8 {y : Nat → ClassId} {ad : Nat → Nat} {σ : OS} {g : Nat → Int32} : (prx y ad σ).set 8 (ad 21, .inl (y 0, 700, .inl g)) = prx y ad (tI σ 21 g) := rfl
theorem prx_a9 {y : Nat → ClassId} {ad : Nat → Nat} {σ : OS} : (prx y ad σ)[9]? = some (ad 67, .inl (y 2, 4, .inl (σ.2.2.1 67))) := rfl
theorem prx_s9 {y : Nat → ClassId} {ad : Nat → Nat} {σ : OS} {g : Nat → Int32} : (prx y ad σ).set 9 (ad 67, .inl (y 2, 4, .inl g)) = prx y ad (tI σ 67 g) := rfl
theorem prx_a10 {y : Nat → ClassId} {ad : Nat → Nat} {σ : OS} : (prx y ad σ)[10]? = some (ad 69, .inl (y 3, 24, .inr (.inl (σ.2.2.2 69)))) := rfl
theorem prx_s10 {y : Nat → ClassId} {ad : Nat → Nat} {σ : OS} {g : Nat → Int64} : (prx y ad σ).set 10 (ad 69, .inl (y 3, 24, .inr (.inl g))) = prx y ad (tJ σ 69 g) := rfl
theorem prx_a11 {y : Nat → ClassId} {ad : Nat → Nat} {σ : OS} : (prx y ad σ)[11]? = some (ad 70, .inl (y 2, 24, .inl (σ.2.2.1 70))) := rfl
theorem prx_s11 {y : Nat → ClassId} {ad : Nat → Nat} {σ : OS} {g : Nat → Int32} : (prx y ad σ).set 11 (ad 70, .inl (y 2, 24, .inl g)) = prx y ad (tI σ 70 g) := rfl
theorem prx_a12 {y : Nat → ClassId} {ad : Nat → Nat} {σ : OS} : (prx y ad σ)[12]? = some (ad 71, .inl (y 2, 350, .inl (σ.2.2.1 71))) := rfl
theorem prx_s12 {y : Nat → ClassId} {ad : Nat → Nat} {σ : OS} {g : Nat → Int32} : (prx y ad σ).set 12 (ad 71, .inl (y 2, 350, .inl g)) = prx y ad (tI σ 71 g) := rfl
theorem prx_a13 {y : Nat → ClassId} {ad : Nat → Nat} {σ : OS} : (prx y ad σ)[13]? = some (ad 72, .inl (y 2, 700, .inl (σ.2.2.1 72))) := rfl
theorem prx_s13 {y : Nat → ClassId} {ad : Nat → Nat} {σ : OS} {g : Nat → Int32} : (prx y ad σ).set 13 (ad 72, .inl (y 2, 700, .inl g)) = prx y ad (tI σ 72 g) := rfl
theorem prx_a14 {y : Nat → ClassId} {ad : Nat → Nat} {σ : OS} : (prx y ad σ)[14]? = some (ad 73, .inl (y 2, 700, .inl (σ.2.2.1 73))) := rfl
theorem prx_s14 {y : Nat → ClassId} {ad : Nat → Nat} {σ : OS} {g : Nat → Int32} : (prx y ad σ).set 14 (ad 73, .inl (y 2, 700, .inl g)) = prx y ad (tI σ 73 g) := rfl
abbrev prd_f0 (y : Nat → ClassId) (ad : Nat → Nat) (iv : Value) (σ : OS) : List Value := [.ref (ad 40), iv, .int (σ.1 33), .int (σ.1 34), .int (σ.1 35), .int (σ.1 36), .int (σ.1 37), .int (σ.1 38)]
abbrev prd_f1 (y : Nat → ClassId) (ad : Nat → Nat) (iv : Value) (σ : OS) : List Value := [.ref (ad 41), .ref (ad 42), .ref (ad 43), .ref (ad 44), .int (σ.1 45), .int (σ.1 46)]
abbrev prd_f2 (y : Nat → ClassId) (ad : Nat → Nat) (iv : Value) (σ : OS) : List Value := [.ref (ad 21), .int (σ.1 22)]
abbrev prd_f3 (y : Nat → ClassId) (ad : Nat → Nat) (iv : Value) (σ : OS) : List Value := [.int (σ.1 61), .int (σ.1 62), .int (σ.1 63), .int (σ.1 64), .int (σ.1 65), .int (σ.1 66), .ref (ad 67), .int (σ.1 68), .ref (ad 69), .ref (ad 70), .ref (ad 71), .ref (ad 72), .ref (ad 73)]
def prd (y : Nat → ClassId) (ad : Nat → Nat) (iv : Value) (σ : OS) : va_W := [((ad 30), .inr (4, prd_f0 y ad iv σ)), ((ad 40), .inr (9, prd_f1 y ad iv σ)), ((ad 20), .inr (8, prd_f2 y ad iv σ)), ((ad 60), .inr (5, prd_f3 y ad iv σ)), (ad 41, .inl (y 3, 14, .inr (.inl (σ.2.2.2 41)))), (ad 42, .inl (y 2, 700, .inl (σ.2.2.1 42))), (ad 43, .inl (y 2, 700, .inl (σ.2.2.1 43))), (ad 44, .inl (y 3, 700, .inr (.inl (σ.2.2.2 44)))), (ad 21, .inl (y 0, 700, .inl (σ.2.2.1 21))), (ad 67, .inl (y 2, 4, .inl (σ.2.2.1 67))), (ad 69, .inl (y 3, 24, .inr (.inl (σ.2.2.2 69)))), (ad 70, .inl (y 2, 24, .inl (σ.2.2.1 70))), (ad 71, .inl (y 2, 350, .inl (σ.2.2.1 71))), (ad 72, .inl (y 2, 700, .inl (σ.2.2.1 72))), (ad 73, .inl (y 2, 700, .inl (σ.2.2.1 73)))]
theorem prd_o0 {y : Nat → ClassId} {ad : Nat → Nat} {iv : Value} {σ : OS} : (prd y ad iv σ)[0]? = some ((ad 30), .inr (4, prd_f0 y ad iv σ)) := rfl
theorem prd_p0_1 {y : Nat → ClassId} {ad : Nat → Nat} {iv : Value} {σ : OS} {v : Value} : (prd y ad iv σ).set 0 ((ad 30), .inr (4, (prd_f0 y ad iv σ).set 1 v)) = prd y ad v σ := rfl
theorem prd_p0_2 {y : Nat → ClassId} {ad : Nat → Nat} {iv : Value} {σ : OS} {v : Int32} : (prd y ad iv σ).set 0 ((ad 30), .inr (4, (prd_f0 y ad iv σ).set 2 (.int v))) = prd y ad iv (sI σ 33 v) := rfl
theorem prd_p0_3 {y : Nat → ClassId} {ad : Nat → Nat} {iv : Value} {σ : OS} {v : Int32} : (prd y ad iv σ).set 0 ((ad 30), .inr (4, (prd_f0 y ad iv σ).set 3 (.int v))) = prd y ad iv (sI σ 34 v) := rfl
theorem prd_p0_4 {y : Nat → ClassId} {ad : Nat → Nat} {iv : Value} {σ : OS} {v : Int32} : (prd y ad iv σ).set 0 ((ad 30), .inr (4, (prd_f0 y ad iv σ).set 4 (.int v))) = prd y ad iv (sI σ 35 v) := rfl
theorem prd_p0_5 {y : Nat → ClassId} {ad : Nat → Nat} {iv : Value} {σ : OS} {v : Int32} : (prd y ad iv σ).set 0 ((ad 30), .inr (4, (prd_f0 y ad iv σ).set 5 (.int v))) = prd y ad iv (sI σ 36 v) := rfl
theorem prd_p0_6 {y : Nat → ClassId} {ad : Nat → Nat} {iv : Value} {σ : OS} {v : Int32} : (prd y ad iv σ).set 0 ((ad 30), .inr (4, (prd_f0 y ad iv σ).set 6 (.int v))) = prd y ad iv (sI σ 37 v) := rfl
theorem prd_p0_7 {y : Nat → ClassId} {ad : Nat → Nat} {iv : Value} {σ : OS} {v : Int32} : (prd y ad iv σ).set 0 ((ad 30), .inr (4, (prd_f0 y ad iv σ).set 7 (.int v))) = prd y ad iv (sI σ 38 v) := rfl
theorem prd_o1 {y : Nat → ClassId} {ad : Nat → Nat} {iv : Value} {σ : OS} : (prd y ad iv σ)[1]? = some ((ad 40), .inr (9, prd_f1 y ad iv σ)) := rfl
theorem prd_p1_4 {y : Nat → ClassId} {ad : Nat → Nat} {iv : Value} {σ : OS} {v : Int32} : (prd y ad iv σ).set 1 ((ad 40), .inr (9, (prd_f1 y ad iv σ).set 4 (.int v))) = prd y ad iv (sI σ 45 v) := rfl
theorem prd_p1_5 {y : Nat → ClassId} {ad : Nat → Nat} {iv : Value} {σ : OS} {v : Int32} : (prd y ad iv σ).set 1 ((ad 40), .inr (9, (prd_f1 y ad iv σ).set 5 (.int v))) = prd y ad iv (sI σ 46 v) := rfl
theorem prd_o2 {y : Nat → ClassId} {ad : Nat → Nat} {iv : Value} {σ : OS} : (prd y ad iv σ)[2]? = some ((ad 20), .inr (8, prd_f2 y ad iv σ)) := rfl
theorem prd_p2_1 {y : Nat → ClassId} {ad : Nat → Nat} {iv : Value} {σ : OS} {v : Int32} : (prd y ad iv σ).set 2 ((ad 20), .inr (8, (prd_f2 y ad iv σ).set 1 (.int v))) = prd y ad iv (sI σ 22 v) := rfl
theorem prd_o3 {y : Nat → ClassId} {ad : Nat → Nat} {iv : Value} {σ : OS} : (prd y ad iv σ)[3]? = some ((ad 60), .inr (5, prd_f3 y ad iv σ)) := rfl
theorem prd_p3_0 {y : Nat → ClassId} {ad : Nat → Nat} {iv : Value} {σ : OS} {v : Int32} : (prd y ad iv σ).set 3 ((ad 60), .inr (5, (prd_f3 y ad iv σ).set 0 (.int v))) = prd y ad iv (sI σ 61 v) := rfl
theorem prd_p3_1 {y : Nat → ClassId} {ad : Nat → Nat} {iv : Value} {σ : OS} {v : Int32} : (prd y ad iv σ).set 3 ((ad 60), .inr (5, (prd_f3 y ad iv σ).set 1 (.int v))) = prd y ad iv (sI σ 62 v) := rfl
theorem prd_p3_2 {y : Nat → ClassId} {ad : Nat → Nat} {iv : Value} {σ : OS} {v : Int32} : (prd y ad iv σ).set 3 ((ad 60), .inr (5, (prd_f3 y ad iv σ).set 2 (.int v))) = prd y ad iv (sI σ 63 v) := rfl
theorem prd_p3_3 {y : Nat → ClassId} {ad : Nat → Nat} {iv : Value} {σ : OS} {v : Int32} : (prd y ad iv σ).set 3 ((ad 60), .inr (5, (prd_f3 y ad iv σ).set 3 (.int v))) = prd y ad iv (sI σ 64 v) := rfl
theorem prd_p3_4 {y : Nat → ClassId} {ad : Nat → Nat} {iv : Value} {σ : OS} {v : Int32} : (prd y ad iv σ).set 3 ((ad 60), .inr (5, (prd_f3 y ad iv σ).set 4 (.int v))) = prd y ad iv (sI σ 65 v) := rfl
theorem prd_p3_5 {y : Nat → ClassId} {ad : Nat → Nat} {iv : Value} {σ : OS} {v : Int32} : (prd y ad iv σ).set 3 ((ad 60), .inr (5, (prd_f3 y ad iv σ).set 5 (.int v))) = prd y ad iv (sI σ 66 v) := rfl
theorem prd_p3_7 {y : Nat → ClassId} {ad : Nat → Nat} {iv : Value} {σ : OS} {v : Int32} : (prd y ad iv σ).set 3 ((ad 60), .inr (5, (prd_f3 y ad iv σ).set 7 (.int v))) = prd y ad iv (sI σ 68 v) := rfl
theorem prd_a4 {y : Nat → ClassId} {ad : Nat → Nat} {iv : Value} {σ : OS} : (prd y ad iv σ)[4]? = some (ad 41, .inl (y 3, 14, .inr (.inl (σ.2.2.2 41)))) := rfl
theorem prd_s4 {y : Nat → ClassId} {ad : Nat → Nat} {iv : Value} {σ : OS} {g : Nat → Int64} : (prd y ad iv σ).set 4 (ad 41, .inl (y 3, 14, .inr (.inl g))) = prd y ad iv (tJ σ 41 g) := rfl
theorem prd_a5 {y : Nat → ClassId} {ad : Nat → Nat} {iv : Value} {σ : OS} : (prd y ad iv σ)[5]? = some (ad 42, .inl (y 2, 700, .inl (σ.2.2.1 42))) := rfl
theorem prd_s5 {y : Nat → ClassId} {ad : Nat → Nat} {iv : Value} {σ : OS} {g : Nat → Int32} : (prd y ad iv σ).set 5 (ad 42, .inl (y 2, 700, .inl g)) = prd y ad iv (tI σ 42 g) := rfl
theorem prd_a6 {y : Nat → ClassId} {ad : Nat → Nat} {iv : Value} {σ : OS} : (prd y ad iv σ)[6]? = some (ad 43, .inl (y 2, 700, .inl (σ.2.2.1 43))) := rfl
theorem prd_s6 {y : Nat → ClassId} {ad : Nat → Nat} {iv : Value} {σ : OS} {g : Nat → Int32} : (prd y ad iv σ).set 6 (ad 43, .inl (y 2, 700, .inl g)) = prd y ad iv (tI σ 43 g) := rfl
theorem prd_a7 {y : Nat → ClassId} {ad : Nat → Nat} {iv : Value} {σ : OS} : (prd y ad iv σ)[7]? = some (ad 44, .inl (y 3, 700, .inr (.inl (σ.2.2.2 44)))) := rfl
theorem prd_s7 {y : Nat → ClassId} {ad : Nat → Nat} {iv : Value} {σ : OS} {g : Nat → Int64} : (prd y ad iv σ).set 7 (ad 44, .inl (y 3, 700, .inr (.inl g))) = prd y ad iv (tJ σ 44 g) := rfl
theorem prd_a8 {y : Nat → ClassId} {ad : Nat → Nat} {iv : Value} {σ : OS} : (prd y ad iv σ)[8]? = some (ad 21, .inl (y 0, 700, .inl (σ.2.2.1 21))) := rfl
theorem prd_s8 {y : Nat → ClassId} {ad : Nat → Nat} {iv : Value} {σ : OS} {g : Nat → Int32} : (prd y ad iv σ).set 8 (ad 21, .inl (y 0, 700, .inl g)) = prd y ad iv (tI σ 21 g) := rfl
theorem prd_a9 {y : Nat → ClassId} {ad : Nat → Nat} {iv : Value} {σ : OS} : (prd y ad iv σ)[9]? = some (ad 67, .inl (y 2, 4, .inl (σ.2.2.1 67))) := rfl
theorem prd_s9 {y : Nat → ClassId} {ad : Nat → Nat} {iv : Value} {σ : OS} {g : Nat → Int32} : (prd y ad iv σ).set 9 (ad 67, .inl (y 2, 4, .inl g)) = prd y ad iv (tI σ 67 g) := rfl
theorem prd_a10 {y : Nat → ClassId} {ad : Nat → Nat} {iv : Value} {σ : OS} : (prd y ad iv σ)[10]? = some (ad 69, .inl (y 3, 24, .inr (.inl (σ.2.2.2 69)))) := rfl
theorem prd_s10 {y : Nat → ClassId} {ad : Nat → Nat} {iv : Value} {σ : OS} {g : Nat → Int64} : (prd y ad iv σ).set 10 (ad 69, .inl (y 3, 24, .inr (.inl g))) = prd y ad iv (tJ σ 69 g) := rfl
theorem prd_a11 {y : Nat → ClassId} {ad : Nat → Nat} {iv : Value} {σ : OS} : (prd y ad iv σ)[11]? = some (ad 70, .inl (y 2, 24, .inl (σ.2.2.1 70))) := rfl
theorem prd_s11 {y : Nat → ClassId} {ad : Nat → Nat} {iv : Value} {σ : OS} {g : Nat → Int32} : (prd y ad iv σ).set 11 (ad 70, .inl (y 2, 24, .inl g)) = prd y ad iv (tI σ 70 g) := rfl
theorem prd_a12 {y : Nat → ClassId} {ad : Nat → Nat} {iv : Value} {σ : OS} : (prd y ad iv σ)[12]? = some (ad 71, .inl (y 2, 350, .inl (σ.2.2.1 71))) := rfl
theorem prd_s12 {y : Nat → ClassId} {ad : Nat → Nat} {iv : Value} {σ : OS} {g : Nat → Int32} : (prd y ad iv σ).set 12 (ad 71, .inl (y 2, 350, .inl g)) = prd y ad iv (tI σ 71 g) := rfl
theorem prd_a13 {y : Nat → ClassId} {ad : Nat → Nat} {iv : Value} {σ : OS} : (prd y ad iv σ)[13]? = some (ad 72, .inl (y 2, 700, .inl (σ.2.2.1 72))) := rfl
theorem prd_s13 {y : Nat → ClassId} {ad : Nat → Nat} {iv : Value} {σ : OS} {g : Nat → Int32} : (prd y ad iv σ).set 13 (ad 72, .inl (y 2, 700, .inl g)) = prd y ad iv (tI σ 72 g) := rfl
theorem prd_a14 {y : Nat → ClassId} {ad : Nat → Nat} {iv : Value} {σ : OS} : (prd y ad iv σ)[14]? = some (ad 73, .inl (y 2, 700, .inl (σ.2.2.1 73))) := rfl
theorem prd_s14 {y : Nat → ClassId} {ad : Nat → Nat} {iv : Value} {σ : OS} {g : Nat → Int32} : (prd y ad iv σ).set 14 (ad 73, .inl (y 2, 700, .inl g)) = prd y ad iv (tI σ 73 g) := rfl
theorem dX5_read_0 : decode cX5_read 0 = .ok (.aload_n 0, 1) := by decide +kernel
theorem dX5_read_1 : decode cX5_read 1 = .ok (.getfield 12, 3) := by decide +kernel
theorem dX5_read_4 : decode cX5_read 4 = .ok (.aload_n 1, 1) := by decide +kernel
theorem dX5_read_5 : decode cX5_read 5 = .ok (.invokevirtual 25, 3) := by decide +kernel
theorem dX5_read_8 : decode cX5_read 8 = .ok (.aload_n 2, 1) := by decide +kernel
theorem dX5_read_9 : decode cX5_read 9 = .ok (.invokevirtual 29, 3) := by decide +kernel
theorem dX5_read_12 : decode cX5_read 12 = .ok (.aload_n 0, 1) := by decide +kernel
theorem dX5_read_13 : decode cX5_read 13 = .ok (.aload_n 2, 1) := by decide +kernel
theorem dX5_read_14 : decode cX5_read 14 = .ok (.putfield 34, 3) := by decide +kernel
theorem dX5_read_17 : decode cX5_read 17 = .ok (.aload_n 0, 1) := by decide +kernel
theorem dX5_read_18 : decode cX5_read 18 = .ok (.iconst 0, 1) := by decide +kernel
theorem dX5_read_19 : decode cX5_read 19 = .ok (.putfield 38, 3) := by decide +kernel
theorem dX5_read_22 : decode cX5_read 22 = .ok (.aload_n 0, 1) := by decide +kernel
theorem dX5_read_23 : decode cX5_read 23 = .ok (.aload_n 0, 1) := by decide +kernel
theorem dX5_read_24 : decode cX5_read 24 = .ok (.getfield 12, 3) := by decide +kernel
theorem dX5_read_27 : decode cX5_read 27 = .ok (.iconst 0, 1) := by decide +kernel
theorem dX5_read_28 : decode cX5_read 28 = .ok (.invokevirtual 41, 3) := by decide +kernel
theorem dX5_read_31 : decode cX5_read 31 = .ok (.putfield 45, 3) := by decide +kernel
theorem dX5_read_34 : decode cX5_read 34 = .ok (.aload_n 0, 1) := by decide +kernel
theorem dX5_read_35 : decode cX5_read 35 = .ok (.iconst 0, 1) := by decide +kernel
theorem dX5_read_36 : decode cX5_read 36 = .ok (.putfield 48, 3) := by decide +kernel
theorem dX5_read_39 : decode cX5_read 39 = .ok (.aload_n 0, 1) := by decide +kernel
theorem dX5_read_40 : decode cX5_read 40 = .ok (.iconst 0, 1) := by decide +kernel
theorem dX5_read_41 : decode cX5_read 41 = .ok (.putfield 22, 3) := by decide +kernel
theorem dX5_read_44 : decode cX5_read 44 = .ok (.aload_n 0, 1) := by decide +kernel
theorem dX5_read_45 : decode cX5_read 45 = .ok (.iconst (-1), 1) := by decide +kernel
theorem dX5_read_46 : decode cX5_read 46 = .ok (.putfield 18, 3) := by decide +kernel
theorem dX5_read_49 : decode cX5_read 49 = .ok (.aload_n 0, 1) := by decide +kernel
theorem dX5_read_50 : decode cX5_read 50 = .ok (.iconst 0, 1) := by decide +kernel
theorem dX5_read_51 : decode cX5_read 51 = .ok (.invokevirtual 51, 3) := by decide +kernel
theorem dX5_read_54 : decode cX5_read 54 = .ok (.ifCond .eq 5, 3) := by decide +kernel
theorem dX5_read_57 : decode cX5_read 57 = .ok (.iconst 1, 1) := by decide +kernel
theorem dX5_read_58 : decode cX5_read 58 = .ok (.ireturn, 1) := by decide +kernel
theorem dX5_read_59 : decode cX5_read 59 = .ok (.aload_n 0, 1) := by decide +kernel
theorem dX5_read_60 : decode cX5_read 60 = .ok (.aload_n 0, 1) := by decide +kernel
theorem dX5_read_61 : decode cX5_read 61 = .ok (.getfield 12, 3) := by decide +kernel
theorem dX5_read_64 : decode cX5_read 64 = .ok (.aload_n 0, 1) := by decide +kernel
theorem dX5_read_65 : decode cX5_read 65 = .ok (.getfield 38, 3) := by decide +kernel
theorem dX5_read_68 : decode cX5_read 68 = .ok (.invokevirtual 55, 3) := by decide +kernel
theorem dX5_read_71 : decode cX5_read 71 = .ok (.aload_n 0, 1) := by decide +kernel
theorem dX5_read_72 : decode cX5_read 72 = .ok (.getfield 58, 3) := by decide +kernel
theorem dX5_read_75 : decode cX5_read 75 = .ok (.iadd, 1) := by decide +kernel
theorem dX5_read_76 : decode cX5_read 76 = .ok (.putfield 18, 3) := by decide +kernel
theorem dX5_read_79 : decode cX5_read 79 = .ok (.iconst 0, 1) := by decide +kernel
theorem dX5_read_80 : decode cX5_read 80 = .ok (.ireturn, 1) := by decide +kernel
def v_z_read : List Cond := .code yX5_read cX5_read 3 (some .boolean) :: ([.fieldLink RX5 12 "SlopeRunner$Parser" "tokens" "LSlopeRunner$Tokens;", .fieldLink RX5 34 "SlopeRunner$Parser" "into" "LSlopeRunner$Program;", .fieldLink RX5 38 "SlopeRunner$Parser" "at" "I", .fieldLink RX5 45 "SlopeRunner$Parser" "kind" "I", .fieldLink RX5 48 "SlopeRunner$Parser" "open" "I", .fieldLink RX5 22 "SlopeRunner$Parser" "kindOfFault" "I", .fieldLink RX5 18 "SlopeRunner$Parser" "placeOfFault" "I", .fieldLink RX5 58 "SlopeRunner$Parser" "bytesIntoToken" "I"] ++ ((wsV RX5 25 RX10 yX10_cut v_o_cut) ++ ((wsV RX5 29 RX6 yX6_clear v_w_clear) ++ ((wsV RX5 41 RX10 yX10_kindAt v_o1_kindAt) ++ ((wsV RX5 51 RX5 yX5_statements v_z_statements) ++ ((wsV RX5 55 RX10 yX10_startAt v_o1_startAt) ++ wsX50))))))
theorem g_z_read_0 : GoodIn v_z_read (wsV RX5 25 RX10 yX10_cut v_o_cut) := goodIn_sub (fun w h => List.mem_cons_of_mem _ (List.mem_append_right _ (List.mem_append_left _ h))) (by decide +kernel)
theorem g_z_read_1 : GoodIn v_z_read (wsV RX5 29 RX6 yX6_clear v_w_clear) := goodIn_sub (fun w h => List.mem_cons_of_mem _ (List.mem_append_right _ (List.mem_append_right _ (List.mem_append_left _ h)))) (by decide +kernel)
theorem g_z_read_2 : GoodIn v_z_read (wsV RX5 41 RX10 yX10_kindAt v_o1_kindAt) := goodIn_sub (fun w h => List.mem_cons_of_mem _ (List.mem_append_right _ (List.mem_append_right _ (List.mem_append_right _ (List.mem_append_left _ h))))) (by decide +kernel)
theorem g_z_read_3 : GoodIn v_z_read (wsV RX5 51 RX5 yX5_statements v_z_statements) := goodIn_sub (fun w h => List.mem_cons_of_mem _ (List.mem_append_right _ (List.mem_append_right _ (List.mem_append_right _ (List.mem_append_right _ (List.mem_append_left _ h)))))) (by decide +kernel)
theorem g_z_read_4 : GoodIn v_z_read (wsV RX5 55 RX10 yX10_startAt v_o1_startAt) := goodIn_sub (fun w h => List.mem_cons_of_mem _ (List.mem_append_right _ (List.mem_append_right _ (List.mem_append_right _ (List.mem_append_right _ (List.mem_append_right _ (List.mem_append_left _ h))))))) (by decide +kernel)
set_option maxHeartbeats 4000000 in
set_option maxRecDepth 100000 in
theorem z_read (l : Launch) (D : va_G) (y : Nat → ClassId) (sz : Nat) (ad : Nat → Nat) (iv : Value) (σ : OS) (htl0 : 0 ≤ (σ.1 22).toInt) (htl1 : (σ.1 22).toInt ≤ 700) : Met l yX5_read v_z_read ({ frames := 133, cells := 0, slots := 0, locals := 3982 } : Room) (va_Pc [.ref (ad 30), .ref (ad 20), .ref (ad 60)] (xPre D (xT y) (prd y ad iv σ) sz)) (va_Qi (fun (r : Int32) (u : Int32 × Int32 × Int32 × Int32 × Int32 × (Nat → Int32) × Int32 × (Nat → Int32) × Int32 × (Nat → Int32) × Int32 × Int32 × Int32 × Int32 × Int32 × (Nat → Int64) × (Nat → Int32) × (Nat → Int32) × Int32 × (Nat → Int32) × (Nat → Int32) × (Nat → Int64) × Int32 × Int32) => 0 ≤ u.2.2.2.2.2.2.2.2.1.toInt ∧ u.2.2.2.2.2.2.2.2.1.toInt ≤ 700 ∧ 0 ≤ u.2.2.2.2.2.2.1.toInt ∧ u.2.2.2.2.2.2.1.toInt ≤ 350 ∧ 0 ≤ u.2.2.2.2.2.2.2.2.2.2.2.2.2.2.1.toInt ∧ u.2.2.2.2.2.2.2.2.2.2.2.2.2.2.1.toInt ≤ 24 ∧ 0 ≤ u.2.2.2.2.2.2.2.2.2.2.2.1.toInt ∧ u.2.2.2.2.2.2.2.2.2.2.2.1.toInt ≤ 8 ∧ 0 ≤ u.2.2.2.2.2.2.2.2.2.2.2.2.1.toInt ∧ u.2.2.2.2.2.2.2.2.2.2.2.2.1.toInt ≤ 4 ∧ (r.toInt = 0 ∨ r.toInt = 1)) (fun (u : Int32 × Int32 × Int32 × Int32 × Int32 × (Nat → Int32) × Int32 × (Nat → Int32) × Int32 × (Nat → Int32) × Int32 × Int32 × Int32 × Int32 × Int32 × (Nat → Int64) × (Nat → Int32) × (Nat → Int32) × Int32 × (Nat → Int32) × (Nat → Int32) × (Nat → Int64) × Int32 × Int32) => xB D (xT y) (va_A (prd y ad iv σ) sz) (prd y ad (.ref (ad 60)) (sI (sI (tJ (tI (tI (sI (tI (tI (tJ (sI (sI (sI (sI (sI (tI (sI (tI (sI (tI (sI (sI (sI (sI (sI σ 36 u.1) 37 u.2.1) 33 u.2.2.1) 34 u.2.2.2.1) 35 u.2.2.2.2.1) 71 u.2.2.2.2.2.1) 65 u.2.2.2.2.2.2.1) 72 u.2.2.2.2.2.2.2.1) 66 u.2.2.2.2.2.2.2.2.1) 73 u.2.2.2.2.2.2.2.2.2.1) 64 u.2.2.2.2.2.2.2.2.2.2.1) 61 u.2.2.2.2.2.2.2.2.2.2.2.1) 62 u.2.2.2.2.2.2.2.2.2.2.2.2.1) 63 u.2.2.2.2.2.2.2.2.2.2.2.2.2.1) 68 u.2.2.2.2.2.2.2.2.2.2.2.2.2.2.1) 69 u.2.2.2.2.2.2.2.2.2.2.2.2.2.2.2.1) 70 u.2.2.2.2.2.2.2.2.2.2.2.2.2.2.2.2.1) 67 u.2.2.2.2.2.2.2.2.2.2.2.2.2.2.2.2.2.1) 38 u.2.2.2.2.2.2.2.2.2.2.2.2.2.2.2.2.2.2.1) 42 u.2.2.2.2.2.2.2.2.2.2.2.2.2.2.2.2.2.2.2.1) 43 u.2.2.2.2.2.2.2.2.2.2.2.2.2.2.2.2.2.2.2.2.1) 44 u.2.2.2.2.2.2.2.2.2.2.2.2.2.2.2.2.2.2.2.2.2.1) 45 u.2.2.2.2.2.2.2.2.2.2.2.2.2.2.2.2.2.2.2.2.2.2.1) 46 u.2.2.2.2.2.2.2.2.2.2.2.2.2.2.2.2.2.2.2.2.2.2.2))) (va_A (prd y ad iv σ) sz)) 0 0 (va_A (prd y ad iv σ) sz) := by
  refine x_meti (cc := cX5_read) (maxL := 3) (by decide) rfl (Nat.le_of_ble_eq_true rfl) ?_
  intro p e s m below meth c A H locs Q hx hb hml hown hts hr hlocks hmn hA hP hK hD hS ls hl hQ
  have hl : lv_has ls 3 [(0, .ref (ad 30)), (1, .ref (ad 20)), (2, .ref (ad 60))] := hl
  have fl12 := hts (.fieldLink RX5 12 "SlopeRunner$Parser" "tokens" "LSlopeRunner$Tokens;") (List.mem_of_getElem? (i := 1) rfl)
  have inX5 : ∀ w ∈ wsX50, w ∈ v_z_read := (fun w h => List.mem_cons_of_mem _ (List.mem_append_right _ (List.mem_append_right _ (List.mem_append_right _ (List.mem_append_right _ (List.mem_append_right _ (List.mem_append_right _ h)))))))
  have fl34 := hts (.fieldLink RX5 34 "SlopeRunner$Parser" "into" "LSlopeRunner$Program;") (List.mem_of_getElem? (i := 2) rfl)
  have fl38 := hts (.fieldLink RX5 38 "SlopeRunner$Parser" "at" "I") (List.mem_of_getElem? (i := 3) rfl)
  have kk_0 : (0 : Int32).toInt = 0 := rfl
  have fl45 := hts (.fieldLink RX5 45 "SlopeRunner$Parser" "kind" "I") (List.mem_of_getElem? (i := 4) rfl)
  have fl48 := hts (.fieldLink RX5 48 "SlopeRunner$Parser" "open" "I") (List.mem_of_getElem? (i := 5) rfl)
  have fl22 := hts (.fieldLink RX5 22 "SlopeRunner$Parser" "kindOfFault" "I") (List.mem_of_getElem? (i := 6) rfl)
  have fl18 := hts (.fieldLink RX5 18 "SlopeRunner$Parser" "placeOfFault" "I") (List.mem_of_getElem? (i := 7) rfl)
  have fl58 := hts (.fieldLink RX5 58 "SlopeRunner$Parser" "bytesIntoToken" "I") (List.mem_of_getElem? (i := 8) rfl)
  have kk_1 : (1 : Int32).toInt = 1 := rfl
  refine lv_aload_n hx hb dX5_read_0 rfl (lv_at hl 0 rfl) ?_
  refine va_get (D := D) (ci := 4) (v := .ref (ad 40)) (C := RX5) (T := TX5) (N := 8) hx hb hts inX5 hown hK hP 0 prd_o0 rfl 0 (by decide) fl12 (fun _ h9 => h9) rfl dX5_read_1 ?_
  refine lv_aload_n hx hb dX5_read_4 rfl (lv_at hl 1 rfl) ?_
  have hPs : va_P D vwCl (tkw y ad σ) H := x_suP hP [1, 2, 4, 5, 6, 7, 8] rfl
  have hDs : va_D A (tkw y ad σ) := x_suD hD [1, 2, 4, 5, 6, 7, 8] rfl (by decide)
  refine x_callvS (b1 := fun (u : (Nat → Int32) × (Nat → Int32) × (Nat → Int64) × Int32 × Int32) => (prd y ad iv (sI (sI (tJ (tI (tI σ 42 u.1) 43 u.2.1) 44 u.2.2.1) 45 u.2.2.2.1) 46 u.2.2.2.2))) [1, 2, 4, 5, 6, 7, 8] (va_runV (As := [.ref (ad 20)]) (rest := []) ⟨hx, hb, hml, hown, hts⟩ (o_cut l D y H.size ad σ (show 0 ≤ ((σ.1 22)).toInt from by first | omega | decide) (show ((σ.1 22)).toInt ≤ 700 from by first | omega | decide)) (cwV 1 hts g_z_read_0 rfl rfl rfl (by decide +kernel) ⟨Nat.le_of_ble_eq_true rfl, Nat.le_of_ble_eq_true rfl⟩) (x_preV (q := (RX10, TX10, 6)) hK hPs hDs (ci := 9) (q0 := 0) rfl tkw_o0) rfl rfl hl.1 rfl (lv_room (Nat.le_of_ble_eq_true rfl)) dX5_read_5 ⟨Nat.le_of_ble_eq_true rfl, Nat.le_of_ble_eq_true rfl⟩) hP hD hS hA rfl (fun _ => rfl) (fun _ => rfl) (fun _ => rfl) (fun u H locs hw hP hD hS => ?_)
  obtain ⟨f_1, f_2, f_3, n_4, n_5⟩ := u
  try dsimp only at hw
  have hP : va_P D vwCl (prd y ad iv (sI (sI (tJ (tI (tI σ 42 f_1) 43 f_2) 44 f_3) 45 n_4) 46 n_5)) H := hP
  have hD : va_D A (prd y ad iv (sI (sI (tJ (tI (tI σ 42 f_1) 43 f_2) 44 f_3) 45 n_4) 46 n_5)) := hD
  replace hw : 0 ≤ n_4.toInt ∧ n_4.toInt ≤ 700 := hw
  have hcu := hw
  refine lv_aload_n hx hb dX5_read_8 rfl (lv_at hl 2 rfl) ?_
  have hPs : va_P D vwCl (pgw y ad (sI (sI (tJ (tI (tI σ 42 f_1) 43 f_2) 44 f_3) 45 n_4) 46 n_5)) H := x_suP hP [3, 9, 10, 11, 12, 13, 14] rfl
  have hDs : va_D A (pgw y ad (sI (sI (tJ (tI (tI σ 42 f_1) 43 f_2) 44 f_3) 45 n_4) 46 n_5)) := x_suD hD [3, 9, 10, 11, 12, 13, 14] rfl (by decide)
  refine x_callvS (b1 := fun (u : Int32 × Int32 × Int32 × Int32 × Int32 × Int32 × Int32) => (prd y ad iv (sI (sI (sI (sI (sI (sI (sI (sI (sI (tJ (tI (tI σ 42 f_1) 43 f_2) 44 f_3) 45 n_4) 46 n_5) 61 u.1) 62 u.2.1) 63 u.2.2.1) 64 u.2.2.2.1) 65 u.2.2.2.2.1) 68 u.2.2.2.2.2.1) 66 u.2.2.2.2.2.2))) [3, 9, 10, 11, 12, 13, 14] (va_runV (As := []) (rest := []) ⟨hx, hb, hml, hown, hts⟩ (w_clear l D y H.size ad (sI (sI (tJ (tI (tI σ 42 f_1) 43 f_2) 44 f_3) 45 n_4) 46 n_5) ) (cwV 0 hts g_z_read_1 rfl rfl rfl (by decide +kernel) ⟨Nat.le_of_ble_eq_true rfl, Nat.le_of_ble_eq_true rfl⟩) (x_preV (q := (RX6, TX6, 13)) hK hPs hDs (ci := 5) (q0 := 0) rfl pgw_o0) rfl rfl hl.1 rfl (lv_room (Nat.le_of_ble_eq_true rfl)) dX5_read_9 ⟨Nat.le_of_ble_eq_true rfl, Nat.le_of_ble_eq_true rfl⟩) hP hD hS hA rfl (fun _ => rfl) (fun _ => rfl) (fun _ => rfl) (fun u H locs hw hP hD hS => ?_)
  obtain ⟨n_6, n_7, n_8, n_9, n_10, n_11, n_12⟩ := u
  try dsimp only at hw
  have hP : va_P D vwCl (prd y ad iv (sI (sI (sI (sI (sI (sI (sI (sI (sI (tJ (tI (tI σ 42 f_1) 43 f_2) 44 f_3) 45 n_4) 46 n_5) 61 n_6) 62 n_7) 63 n_8) 64 n_9) 65 n_10) 68 n_11) 66 n_12)) H := hP
  have hD : va_D A (prd y ad iv (sI (sI (sI (sI (sI (sI (sI (sI (sI (tJ (tI (tI σ 42 f_1) 43 f_2) 44 f_3) 45 n_4) 46 n_5) 61 n_6) 62 n_7) 63 n_8) 64 n_9) 65 n_10) 68 n_11) 66 n_12)) := hD
  replace hw : n_6.toInt = 0 ∧ n_7.toInt = 0 ∧ n_10.toInt = 0 ∧ n_11.toInt = 0 ∧ n_12.toInt = 0 := hw
  obtain ⟨hz1, hz2, hz3, hz4, hz5⟩ := hw
  refine lv_aload_n hx hb dX5_read_12 rfl (lv_at hl 0 rfl) ?_
  refine lv_aload_n hx hb dX5_read_13 rfl (lv_at hl 2 rfl) ?_
  refine va_put (D := D) (ci := 4) (v := .ref (ad 60)) (ty := (.object "SlopeRunner$Program")) (C := RX5) (T := TX5) (N := 8) hx hb hts inX5 tyX5 tyX5_ok nmX5 hown hK hP hD hS 0 prd_o0 rfl 1 (by decide) fl34 (fun _ h9 => h9) rfl (by decide +kernel) rfl rfl (Nat.le_of_ble_eq_true rfl) dX5_read_14 (fun H locs hP hD hS => ?_)
  have hP : va_P D vwCl (prd y ad (.ref (ad 60)) (sI (sI (sI (sI (sI (sI (sI (sI (sI (tJ (tI (tI σ 42 f_1) 43 f_2) 44 f_3) 45 n_4) 46 n_5) 61 n_6) 62 n_7) 63 n_8) 64 n_9) 65 n_10) 68 n_11) 66 n_12)) H := x_trP hP prd_p0_1
  have hD : va_D A (prd y ad (.ref (ad 60)) (sI (sI (sI (sI (sI (sI (sI (sI (sI (tJ (tI (tI σ 42 f_1) 43 f_2) 44 f_3) 45 n_4) 46 n_5) 61 n_6) 62 n_7) 63 n_8) 64 n_9) 65 n_10) 68 n_11) 66 n_12)) := x_trD hD prd_p0_1
  have hP : va_P D vwCl (prx y ad (sI (sI (sI (sI (sI (sI (sI (sI (sI (tJ (tI (tI σ 42 f_1) 43 f_2) 44 f_3) 45 n_4) 46 n_5) 61 n_6) 62 n_7) 63 n_8) 64 n_9) 65 n_10) 68 n_11) 66 n_12)) H := hP
  have hD : va_D A (prx y ad (sI (sI (sI (sI (sI (sI (sI (sI (sI (tJ (tI (tI σ 42 f_1) 43 f_2) 44 f_3) 45 n_4) 46 n_5) 61 n_6) 62 n_7) 63 n_8) 64 n_9) 65 n_10) 68 n_11) 66 n_12)) := hD
  refine lv_aload_n hx hb dX5_read_17 rfl (lv_at hl 0 rfl) ?_
  refine lv_iconst (v := 0) hx hb dX5_read_18 (by decide) ?_
  refine va_put (D := D) (ci := 4) (v := .int 0) (ty := .int) (C := RX5) (T := TX5) (N := 8) hx hb hts inX5 tyX5 tyX5_ok nmX5 hown hK hP hD hS 0 prx_o0 rfl 2 (by decide) fl38 (fun _ h9 => h9) rfl (by decide +kernel) rfl rfl (Nat.le_of_ble_eq_true rfl) dX5_read_19 (fun H locs hP hD hS => ?_)
  have hP : va_P D vwCl (prx y ad (sI (sI (sI (sI (sI (sI (sI (sI (sI (sI (tJ (tI (tI σ 42 f_1) 43 f_2) 44 f_3) 45 n_4) 46 n_5) 61 n_6) 62 n_7) 63 n_8) 64 n_9) 65 n_10) 68 n_11) 66 n_12) 33 0)) H := x_trP hP prx_p0_2
  have hD : va_D A (prx y ad (sI (sI (sI (sI (sI (sI (sI (sI (sI (sI (tJ (tI (tI σ 42 f_1) 43 f_2) 44 f_3) 45 n_4) 46 n_5) 61 n_6) 62 n_7) 63 n_8) 64 n_9) 65 n_10) 68 n_11) 66 n_12) 33 0)) := x_trD hD prx_p0_2
  refine lv_aload_n hx hb dX5_read_22 rfl (lv_at hl 0 rfl) ?_
  refine lv_aload_n hx hb dX5_read_23 rfl (lv_at hl 0 rfl) ?_
  refine va_get (D := D) (ci := 4) (v := .ref (ad 40)) (C := RX5) (T := TX5) (N := 8) hx hb hts inX5 hown hK hP 0 prx_o0 rfl 0 (by decide) fl12 (fun _ h9 => h9) rfl dX5_read_24 ?_
  refine lv_iconst (v := 0) hx hb dX5_read_27 (by decide) ?_
  have hPs : va_P D vwCl (tow y ad (sI (sI (sI (sI (sI (sI (sI (sI (sI (sI (tJ (tI (tI σ 42 f_1) 43 f_2) 44 f_3) 45 n_4) 46 n_5) 61 n_6) 62 n_7) 63 n_8) 64 n_9) 65 n_10) 68 n_11) 66 n_12) 33 0)) H := x_suP hP [1, 4, 5, 6, 7] rfl
  have hDs : va_D A (tow y ad (sI (sI (sI (sI (sI (sI (sI (sI (sI (sI (tJ (tI (tI σ 42 f_1) 43 f_2) 44 f_3) 45 n_4) 46 n_5) 61 n_6) 62 n_7) 63 n_8) 64 n_9) 65 n_10) 68 n_11) 66 n_12) 33 0)) := x_suD hD [1, 4, 5, 6, 7] rfl (by decide)
  refine x_calliS (b1 := fun (u : Unit) => (prx y ad (sI (sI (sI (sI (sI (sI (sI (sI (sI (sI (tJ (tI (tI σ 42 f_1) 43 f_2) 44 f_3) 45 n_4) 46 n_5) 61 n_6) 62 n_7) 63 n_8) 64 n_9) 65 n_10) 68 n_11) 66 n_12) 33 0))) [1, 4, 5, 6, 7] (va_runV (As := [.int 0]) (rest := [.ref (ad 30)]) ⟨hx, hb, hml, hown, hts⟩ (o1_kindAt l D y H.size ad (sI (sI (sI (sI (sI (sI (sI (sI (sI (sI (tJ (tI (tI σ 42 f_1) 43 f_2) 44 f_3) 45 n_4) 46 n_5) 61 n_6) 62 n_7) 63 n_8) 64 n_9) 65 n_10) 68 n_11) 66 n_12) 33 0) 0 (show 0 ≤ (n_4).toInt from by first | omega | decide) (show (n_4).toInt ≤ 700 from by first | omega | decide)) (cwV 1 hts g_z_read_2 rfl rfl rfl (by decide +kernel) ⟨Nat.le_of_ble_eq_true rfl, Nat.le_of_ble_eq_true rfl⟩) (x_preV (q := (RX10, TX10, 6)) hK hPs hDs (ci := 9) (q0 := 0) rfl tow_o0) rfl rfl hl.1 rfl (lv_room (Nat.le_of_ble_eq_true rfl)) dX5_read_28 ⟨Nat.le_of_ble_eq_true rfl, Nat.le_of_ble_eq_true rfl⟩) hP hD hS hA rfl (fun _ => rfl) (fun _ => rfl) (fun _ => rfl) (fun r_13 u H locs hw hP hD hS => ?_)
  try dsimp only at hw
  have hP : va_P D vwCl (prx y ad (sI (sI (sI (sI (sI (sI (sI (sI (sI (sI (tJ (tI (tI σ 42 f_1) 43 f_2) 44 f_3) 45 n_4) 46 n_5) 61 n_6) 62 n_7) 63 n_8) 64 n_9) 65 n_10) 68 n_11) 66 n_12) 33 0)) H := hP
  have hD : va_D A (prx y ad (sI (sI (sI (sI (sI (sI (sI (sI (sI (sI (tJ (tI (tI σ 42 f_1) 43 f_2) 44 f_3) 45 n_4) 46 n_5) 61 n_6) 62 n_7) 63 n_8) 64 n_9) 65 n_10) 68 n_11) 66 n_12) 33 0)) := hD
  refine va_put (D := D) (ci := 4) (v := .int r_13) (ty := .int) (C := RX5) (T := TX5) (N := 8) hx hb hts inX5 tyX5 tyX5_ok nmX5 hown hK hP hD hS 0 prx_o0 rfl 3 (by decide) fl45 (fun _ h9 => h9) rfl (by decide +kernel) rfl rfl (Nat.le_of_ble_eq_true rfl) dX5_read_31 (fun H locs hP hD hS => ?_)
  have hP : va_P D vwCl (prx y ad (sI (sI (sI (sI (sI (sI (sI (sI (sI (sI (sI (tJ (tI (tI σ 42 f_1) 43 f_2) 44 f_3) 45 n_4) 46 n_5) 61 n_6) 62 n_7) 63 n_8) 64 n_9) 65 n_10) 68 n_11) 66 n_12) 33 0) 34 r_13)) H := x_trP hP prx_p0_3
  have hD : va_D A (prx y ad (sI (sI (sI (sI (sI (sI (sI (sI (sI (sI (sI (tJ (tI (tI σ 42 f_1) 43 f_2) 44 f_3) 45 n_4) 46 n_5) 61 n_6) 62 n_7) 63 n_8) 64 n_9) 65 n_10) 68 n_11) 66 n_12) 33 0) 34 r_13)) := x_trD hD prx_p0_3
  refine lv_aload_n hx hb dX5_read_34 rfl (lv_at hl 0 rfl) ?_
  refine lv_iconst (v := 0) hx hb dX5_read_35 (by decide) ?_
  refine va_put (D := D) (ci := 4) (v := .int 0) (ty := .int) (C := RX5) (T := TX5) (N := 8) hx hb hts inX5 tyX5 tyX5_ok nmX5 hown hK hP hD hS 0 prx_o0 rfl 4 (by decide) fl48 (fun _ h9 => h9) rfl (by decide +kernel) rfl rfl (Nat.le_of_ble_eq_true rfl) dX5_read_36 (fun H locs hP hD hS => ?_)
  have hP : va_P D vwCl (prx y ad (sI (sI (sI (sI (sI (sI (sI (sI (sI (sI (sI (sI (tJ (tI (tI σ 42 f_1) 43 f_2) 44 f_3) 45 n_4) 46 n_5) 61 n_6) 62 n_7) 63 n_8) 64 n_9) 65 n_10) 68 n_11) 66 n_12) 33 0) 34 r_13) 35 0)) H := x_trP hP prx_p0_4
  have hD : va_D A (prx y ad (sI (sI (sI (sI (sI (sI (sI (sI (sI (sI (sI (sI (tJ (tI (tI σ 42 f_1) 43 f_2) 44 f_3) 45 n_4) 46 n_5) 61 n_6) 62 n_7) 63 n_8) 64 n_9) 65 n_10) 68 n_11) 66 n_12) 33 0) 34 r_13) 35 0)) := x_trD hD prx_p0_4
  refine lv_aload_n hx hb dX5_read_39 rfl (lv_at hl 0 rfl) ?_
  refine lv_iconst (v := 0) hx hb dX5_read_40 (by decide) ?_
  refine va_put (D := D) (ci := 4) (v := .int 0) (ty := .int) (C := RX5) (T := TX5) (N := 8) hx hb hts inX5 tyX5 tyX5_ok nmX5 hown hK hP hD hS 0 prx_o0 rfl 5 (by decide) fl22 (fun _ h9 => h9) rfl (by decide +kernel) rfl rfl (Nat.le_of_ble_eq_true rfl) dX5_read_41 (fun H locs hP hD hS => ?_)
  have hP : va_P D vwCl (prx y ad (sI (sI (sI (sI (sI (sI (sI (sI (sI (sI (sI (sI (sI (tJ (tI (tI σ 42 f_1) 43 f_2) 44 f_3) 45 n_4) 46 n_5) 61 n_6) 62 n_7) 63 n_8) 64 n_9) 65 n_10) 68 n_11) 66 n_12) 33 0) 34 r_13) 35 0) 36 0)) H := x_trP hP prx_p0_5
  have hD : va_D A (prx y ad (sI (sI (sI (sI (sI (sI (sI (sI (sI (sI (sI (sI (sI (tJ (tI (tI σ 42 f_1) 43 f_2) 44 f_3) 45 n_4) 46 n_5) 61 n_6) 62 n_7) 63 n_8) 64 n_9) 65 n_10) 68 n_11) 66 n_12) 33 0) 34 r_13) 35 0) 36 0)) := x_trD hD prx_p0_5
  refine lv_aload_n hx hb dX5_read_44 rfl (lv_at hl 0 rfl) ?_
  refine lv_iconst (v := (-1)) hx hb dX5_read_45 (by decide) ?_
  refine va_put (D := D) (ci := 4) (v := .int (-1)) (ty := .int) (C := RX5) (T := TX5) (N := 8) hx hb hts inX5 tyX5 tyX5_ok nmX5 hown hK hP hD hS 0 prx_o0 rfl 7 (by decide) fl18 (fun _ h9 => h9) rfl (by decide +kernel) rfl rfl (Nat.le_of_ble_eq_true rfl) dX5_read_46 (fun H locs hP hD hS => ?_)
  have hP : va_P D vwCl (prx y ad (sI (sI (sI (sI (sI (sI (sI (sI (sI (sI (sI (sI (sI (sI (tJ (tI (tI σ 42 f_1) 43 f_2) 44 f_3) 45 n_4) 46 n_5) 61 n_6) 62 n_7) 63 n_8) 64 n_9) 65 n_10) 68 n_11) 66 n_12) 33 0) 34 r_13) 35 0) 36 0) 38 (-1))) H := x_trP hP prx_p0_7
  have hD : va_D A (prx y ad (sI (sI (sI (sI (sI (sI (sI (sI (sI (sI (sI (sI (sI (sI (tJ (tI (tI σ 42 f_1) 43 f_2) 44 f_3) 45 n_4) 46 n_5) 61 n_6) 62 n_7) 63 n_8) 64 n_9) 65 n_10) 68 n_11) 66 n_12) 33 0) 34 r_13) 35 0) 36 0) 38 (-1))) := x_trD hD prx_p0_7
  refine lv_aload_n hx hb dX5_read_49 rfl (lv_at hl 0 rfl) ?_
  refine lv_iconst (v := 0) hx hb dX5_read_50 (by decide) ?_
  have hPs : va_P D vwCl (prw y ad (sI (sI (sI (sI (sI (sI (sI (sI (sI (sI (sI (sI (sI (sI (tJ (tI (tI σ 42 f_1) 43 f_2) 44 f_3) 45 n_4) 46 n_5) 61 n_6) 62 n_7) 63 n_8) 64 n_9) 65 n_10) 68 n_11) 66 n_12) 33 0) 34 r_13) 35 0) 36 0) 38 (-1))) H := x_suP hP [0, 1, 3, 4, 5, 6, 7, 9, 10, 11, 12, 13, 14] rfl
  have hDs : va_D A (prw y ad (sI (sI (sI (sI (sI (sI (sI (sI (sI (sI (sI (sI (sI (sI (tJ (tI (tI σ 42 f_1) 43 f_2) 44 f_3) 45 n_4) 46 n_5) 61 n_6) 62 n_7) 63 n_8) 64 n_9) 65 n_10) 68 n_11) 66 n_12) 33 0) 34 r_13) 35 0) 36 0) 38 (-1))) := x_suD hD [0, 1, 3, 4, 5, 6, 7, 9, 10, 11, 12, 13, 14] rfl (by decide)
  refine x_calliS (b1 := fun (u : Int32 × Int32 × Int32 × Int32 × Int32 × (Nat → Int32) × Int32 × (Nat → Int32) × Int32 × (Nat → Int32) × Int32 × Int32 × Int32 × Int32 × Int32 × (Nat → Int64) × (Nat → Int32) × (Nat → Int32)) => (prx y ad (tI (tI (tJ (sI (sI (sI (sI (sI (tI (sI (tI (sI (tI (sI (sI (sI (sI (sI (sI (sI (sI (sI (sI (sI (sI (sI (sI (sI (sI (sI (sI (sI (tJ (tI (tI σ 42 f_1) 43 f_2) 44 f_3) 45 n_4) 46 n_5) 61 n_6) 62 n_7) 63 n_8) 64 n_9) 65 n_10) 68 n_11) 66 n_12) 33 0) 34 r_13) 35 0) 36 0) 38 (-1)) 36 u.1) 37 u.2.1) 33 u.2.2.1) 34 u.2.2.2.1) 35 u.2.2.2.2.1) 71 u.2.2.2.2.2.1) 65 u.2.2.2.2.2.2.1) 72 u.2.2.2.2.2.2.2.1) 66 u.2.2.2.2.2.2.2.2.1) 73 u.2.2.2.2.2.2.2.2.2.1) 64 u.2.2.2.2.2.2.2.2.2.2.1) 61 u.2.2.2.2.2.2.2.2.2.2.2.1) 62 u.2.2.2.2.2.2.2.2.2.2.2.2.1) 63 u.2.2.2.2.2.2.2.2.2.2.2.2.2.1) 68 u.2.2.2.2.2.2.2.2.2.2.2.2.2.2.1) 69 u.2.2.2.2.2.2.2.2.2.2.2.2.2.2.2.1) 70 u.2.2.2.2.2.2.2.2.2.2.2.2.2.2.2.2.1) 67 u.2.2.2.2.2.2.2.2.2.2.2.2.2.2.2.2.2))) [0, 1, 3, 4, 5, 6, 7, 9, 10, 11, 12, 13, 14] (va_runV (As := [.int 0]) (rest := []) ⟨hx, hb, hml, hown, hts⟩ (z_statements l D y H.size ad (sI (sI (sI (sI (sI (sI (sI (sI (sI (sI (sI (sI (sI (sI (tJ (tI (tI σ 42 f_1) 43 f_2) 44 f_3) 45 n_4) 46 n_5) 61 n_6) 62 n_7) 63 n_8) 64 n_9) 65 n_10) 68 n_11) 66 n_12) 33 0) 34 r_13) 35 0) 36 0) 38 (-1)) 0 (show 0 ≤ (n_4).toInt from by first | omega | decide) (show (n_4).toInt ≤ 700 from by first | omega | decide) (show 0 ≤ ((0 : Int32)).toInt from by first | omega | decide) (show ((0 : Int32)).toInt ≤ 8 from by first | omega | decide) (show 0 ≤ (n_12).toInt from by first | omega | decide) (show (n_12).toInt ≤ 700 from by first | omega | decide) (show 0 ≤ (n_10).toInt from by first | omega | decide) (show (n_10).toInt ≤ 350 from by first | omega | decide) (show 0 ≤ (n_11).toInt from by first | omega | decide) (show (n_11).toInt ≤ 24 from by first | omega | decide) (show 0 ≤ (n_6).toInt from by first | omega | decide) (show (n_6).toInt ≤ 8 from by first | omega | decide) (show 0 ≤ (n_7).toInt from by first | omega | decide) (show (n_7).toInt ≤ 4 from by first | omega | decide)) (cwV 1 hts g_z_read_3 rfl rfl rfl (by decide +kernel) ⟨Nat.le_of_ble_eq_true rfl, Nat.le_of_ble_eq_true rfl⟩) (x_preV (q := (RX5, TX5, 8)) hK hPs hDs (ci := 4) (q0 := 0) rfl prw_o0) rfl rfl hl.1 rfl (lv_room (Nat.le_of_ble_eq_true rfl)) dX5_read_51 ⟨Nat.le_of_ble_eq_true rfl, Nat.le_of_ble_eq_true rfl⟩) hP hD hS hA rfl (fun _ => rfl) (fun _ => rfl) (fun _ => rfl) (fun r_14 u H locs hw hP hD hS => ?_)
  obtain ⟨n_15, n_16, n_17, n_18, n_19, f_20, n_21, f_22, n_23, f_24, n_25, n_26, n_27, n_28, n_29, f_30, f_31, f_32⟩ := u
  try dsimp only at hw
  have hP : va_P D vwCl (prx y ad (tI (tI (tJ (sI (sI (sI (sI (sI (tI (sI (tI (sI (tI (sI (sI (sI (sI (sI (sI (sI (sI (sI (sI (sI (sI (sI (sI (sI (sI (sI (sI (sI (tJ (tI (tI σ 42 f_1) 43 f_2) 44 f_3) 45 n_4) 46 n_5) 61 n_6) 62 n_7) 63 n_8) 64 n_9) 65 n_10) 68 n_11) 66 n_12) 33 0) 34 r_13) 35 0) 36 0) 38 (-1)) 36 n_15) 37 n_16) 33 n_17) 34 n_18) 35 n_19) 71 f_20) 65 n_21) 72 f_22) 66 n_23) 73 f_24) 64 n_25) 61 n_26) 62 n_27) 63 n_28) 68 n_29) 69 f_30) 70 f_31) 67 f_32)) H := hP
  have hD : va_D A (prx y ad (tI (tI (tJ (sI (sI (sI (sI (sI (tI (sI (tI (sI (tI (sI (sI (sI (sI (sI (sI (sI (sI (sI (sI (sI (sI (sI (sI (sI (sI (sI (sI (sI (tJ (tI (tI σ 42 f_1) 43 f_2) 44 f_3) 45 n_4) 46 n_5) 61 n_6) 62 n_7) 63 n_8) 64 n_9) 65 n_10) 68 n_11) 66 n_12) 33 0) 34 r_13) 35 0) 36 0) 38 (-1)) 36 n_15) 37 n_16) 33 n_17) 34 n_18) 35 n_19) 71 f_20) 65 n_21) 72 f_22) 66 n_23) 73 f_24) 64 n_25) 61 n_26) 62 n_27) 63 n_28) 68 n_29) 69 f_30) 70 f_31) 67 f_32)) := hD
  replace hw : 0 ≤ n_19.toInt ∧ n_19.toInt ≤ 8 ∧ 0 ≤ n_23.toInt ∧ n_23.toInt ≤ 700 ∧ 0 ≤ n_21.toInt ∧ n_21.toInt ≤ 350 ∧ 0 ≤ n_29.toInt ∧ n_29.toInt ≤ 24 ∧ 0 ≤ n_26.toInt ∧ n_26.toInt ≤ 8 ∧ 0 ≤ n_27.toInt ∧ n_27.toInt ≤ 4 ∧ (r_14.toInt = 0 ∨ r_14.toInt = 1) ∧ (r_14.toInt = 1 → n_19.toInt = ((0 : Int32)).toInt) := hw
  obtain ⟨ha0, ha1, ha2, ha3, ha4, ha5, ha6, ha7, ha8, ha9, ha10, ha11, hu, hv⟩ := hw
  have hw := hu
  refine lv_if_eq (tgt := 59) hx hb dX5_read_54 (by decide) (fun c_33 => ?_) (fun c_33 => ?_)
  · have kc_33 : r_14.toInt = 0 := by have h9 := c_33; simp only [ge_iff_le, gt_iff_lt, x_lt, x_le, x_eq, ne_eq, Int32.not_lt, Int32.not_le] at h9; simp only [Int32.reduceToInt] at h9; omega
    refine lv_aload_n hx hb dX5_read_59 rfl (lv_at hl 0 rfl) ?_
    refine lv_aload_n hx hb dX5_read_60 rfl (lv_at hl 0 rfl) ?_
    refine va_get (D := D) (ci := 4) (v := .ref (ad 40)) (C := RX5) (T := TX5) (N := 8) hx hb hts inX5 hown hK hP 0 prx_o0 rfl 0 (by decide) fl12 (fun _ h9 => h9) rfl dX5_read_61 ?_
    refine lv_aload_n hx hb dX5_read_64 rfl (lv_at hl 0 rfl) ?_
    refine va_get (D := D) (ci := 4) (v := .int n_17) (C := RX5) (T := TX5) (N := 8) hx hb hts inX5 hown hK hP 0 prx_o0 rfl 2 (by decide) fl38 (fun _ h9 => h9) rfl dX5_read_65 ?_
    have hPs : va_P D vwCl (tow y ad (tI (tI (tJ (sI (sI (sI (sI (sI (tI (sI (tI (sI (tI (sI (sI (sI (sI (sI (sI (sI (sI (sI (sI (sI (sI (sI (sI (sI (sI (sI (sI (sI (tJ (tI (tI σ 42 f_1) 43 f_2) 44 f_3) 45 n_4) 46 n_5) 61 n_6) 62 n_7) 63 n_8) 64 n_9) 65 n_10) 68 n_11) 66 n_12) 33 0) 34 r_13) 35 0) 36 0) 38 (-1)) 36 n_15) 37 n_16) 33 n_17) 34 n_18) 35 n_19) 71 f_20) 65 n_21) 72 f_22) 66 n_23) 73 f_24) 64 n_25) 61 n_26) 62 n_27) 63 n_28) 68 n_29) 69 f_30) 70 f_31) 67 f_32)) H := x_suP hP [1, 4, 5, 6, 7] rfl
    have hDs : va_D A (tow y ad (tI (tI (tJ (sI (sI (sI (sI (sI (tI (sI (tI (sI (tI (sI (sI (sI (sI (sI (sI (sI (sI (sI (sI (sI (sI (sI (sI (sI (sI (sI (sI (sI (tJ (tI (tI σ 42 f_1) 43 f_2) 44 f_3) 45 n_4) 46 n_5) 61 n_6) 62 n_7) 63 n_8) 64 n_9) 65 n_10) 68 n_11) 66 n_12) 33 0) 34 r_13) 35 0) 36 0) 38 (-1)) 36 n_15) 37 n_16) 33 n_17) 34 n_18) 35 n_19) 71 f_20) 65 n_21) 72 f_22) 66 n_23) 73 f_24) 64 n_25) 61 n_26) 62 n_27) 63 n_28) 68 n_29) 69 f_30) 70 f_31) 67 f_32)) := x_suD hD [1, 4, 5, 6, 7] rfl (by decide)
    refine x_calliS (b1 := fun (u : Unit) => (prx y ad (tI (tI (tJ (sI (sI (sI (sI (sI (tI (sI (tI (sI (tI (sI (sI (sI (sI (sI (sI (sI (sI (sI (sI (sI (sI (sI (sI (sI (sI (sI (sI (sI (tJ (tI (tI σ 42 f_1) 43 f_2) 44 f_3) 45 n_4) 46 n_5) 61 n_6) 62 n_7) 63 n_8) 64 n_9) 65 n_10) 68 n_11) 66 n_12) 33 0) 34 r_13) 35 0) 36 0) 38 (-1)) 36 n_15) 37 n_16) 33 n_17) 34 n_18) 35 n_19) 71 f_20) 65 n_21) 72 f_22) 66 n_23) 73 f_24) 64 n_25) 61 n_26) 62 n_27) 63 n_28) 68 n_29) 69 f_30) 70 f_31) 67 f_32))) [1, 4, 5, 6, 7] (va_runV (As := [.int n_17]) (rest := [.ref (ad 30)]) ⟨hx, hb, hml, hown, hts⟩ (o1_startAt l D y H.size ad (tI (tI (tJ (sI (sI (sI (sI (sI (tI (sI (tI (sI (tI (sI (sI (sI (sI (sI (sI (sI (sI (sI (sI (sI (sI (sI (sI (sI (sI (sI (sI (sI (tJ (tI (tI σ 42 f_1) 43 f_2) 44 f_3) 45 n_4) 46 n_5) 61 n_6) 62 n_7) 63 n_8) 64 n_9) 65 n_10) 68 n_11) 66 n_12) 33 0) 34 r_13) 35 0) 36 0) 38 (-1)) 36 n_15) 37 n_16) 33 n_17) 34 n_18) 35 n_19) 71 f_20) 65 n_21) 72 f_22) 66 n_23) 73 f_24) 64 n_25) 61 n_26) 62 n_27) 63 n_28) 68 n_29) 69 f_30) 70 f_31) 67 f_32) n_17 (show 0 ≤ (n_4).toInt from by first | omega | decide) (show (n_4).toInt ≤ 700 from by first | omega | decide)) (cwV 1 hts g_z_read_4 rfl rfl rfl (by decide +kernel) ⟨Nat.le_of_ble_eq_true rfl, Nat.le_of_ble_eq_true rfl⟩) (x_preV (q := (RX10, TX10, 6)) hK hPs hDs (ci := 9) (q0 := 0) rfl tow_o0) rfl rfl hl.1 rfl (lv_room (Nat.le_of_ble_eq_true rfl)) dX5_read_68 ⟨Nat.le_of_ble_eq_true rfl, Nat.le_of_ble_eq_true rfl⟩) hP hD hS hA rfl (fun _ => rfl) (fun _ => rfl) (fun _ => rfl) (fun r_34 u H locs hw hP hD hS => ?_)
    try dsimp only at hw
    have hP : va_P D vwCl (prx y ad (tI (tI (tJ (sI (sI (sI (sI (sI (tI (sI (tI (sI (tI (sI (sI (sI (sI (sI (sI (sI (sI (sI (sI (sI (sI (sI (sI (sI (sI (sI (sI (sI (tJ (tI (tI σ 42 f_1) 43 f_2) 44 f_3) 45 n_4) 46 n_5) 61 n_6) 62 n_7) 63 n_8) 64 n_9) 65 n_10) 68 n_11) 66 n_12) 33 0) 34 r_13) 35 0) 36 0) 38 (-1)) 36 n_15) 37 n_16) 33 n_17) 34 n_18) 35 n_19) 71 f_20) 65 n_21) 72 f_22) 66 n_23) 73 f_24) 64 n_25) 61 n_26) 62 n_27) 63 n_28) 68 n_29) 69 f_30) 70 f_31) 67 f_32)) H := hP
    have hD : va_D A (prx y ad (tI (tI (tJ (sI (sI (sI (sI (sI (tI (sI (tI (sI (tI (sI (sI (sI (sI (sI (sI (sI (sI (sI (sI (sI (sI (sI (sI (sI (sI (sI (sI (sI (tJ (tI (tI σ 42 f_1) 43 f_2) 44 f_3) 45 n_4) 46 n_5) 61 n_6) 62 n_7) 63 n_8) 64 n_9) 65 n_10) 68 n_11) 66 n_12) 33 0) 34 r_13) 35 0) 36 0) 38 (-1)) 36 n_15) 37 n_16) 33 n_17) 34 n_18) 35 n_19) 71 f_20) 65 n_21) 72 f_22) 66 n_23) 73 f_24) 64 n_25) 61 n_26) 62 n_27) 63 n_28) 68 n_29) 69 f_30) 70 f_31) 67 f_32)) := hD
    refine lv_aload_n hx hb dX5_read_71 rfl (lv_at hl 0 rfl) ?_
    refine va_get (D := D) (ci := 4) (v := .int n_16) (C := RX5) (T := TX5) (N := 8) hx hb hts inX5 hown hK hP 0 prx_o0 rfl 6 (by decide) fl58 (fun _ h9 => h9) rfl dX5_read_72 ?_
    refine lv_iadd hx hb dX5_read_75 ?_
    refine lv_topi (fun i_35 ei_35 => ?_)
    refine va_put (D := D) (ci := 4) (v := .int i_35) (ty := .int) (C := RX5) (T := TX5) (N := 8) hx hb hts inX5 tyX5 tyX5_ok nmX5 hown hK hP hD hS 0 prx_o0 rfl 7 (by decide) fl18 (fun _ h9 => h9) rfl (by decide +kernel) rfl rfl (Nat.le_of_ble_eq_true rfl) dX5_read_76 (fun H locs hP hD hS => ?_)
    have hP : va_P D vwCl (prx y ad (sI (tI (tI (tJ (sI (sI (sI (sI (sI (tI (sI (tI (sI (tI (sI (sI (sI (sI (sI (sI (sI (sI (sI (sI (sI (sI (sI (sI (sI (sI (sI (sI (sI (tJ (tI (tI σ 42 f_1) 43 f_2) 44 f_3) 45 n_4) 46 n_5) 61 n_6) 62 n_7) 63 n_8) 64 n_9) 65 n_10) 68 n_11) 66 n_12) 33 0) 34 r_13) 35 0) 36 0) 38 (-1)) 36 n_15) 37 n_16) 33 n_17) 34 n_18) 35 n_19) 71 f_20) 65 n_21) 72 f_22) 66 n_23) 73 f_24) 64 n_25) 61 n_26) 62 n_27) 63 n_28) 68 n_29) 69 f_30) 70 f_31) 67 f_32) 38 i_35)) H := x_trP hP prx_p0_7
    have hD : va_D A (prx y ad (sI (tI (tI (tJ (sI (sI (sI (sI (sI (tI (sI (tI (sI (tI (sI (sI (sI (sI (sI (sI (sI (sI (sI (sI (sI (sI (sI (sI (sI (sI (sI (sI (sI (tJ (tI (tI σ 42 f_1) 43 f_2) 44 f_3) 45 n_4) 46 n_5) 61 n_6) 62 n_7) 63 n_8) 64 n_9) 65 n_10) 68 n_11) 66 n_12) 33 0) 34 r_13) 35 0) 36 0) 38 (-1)) 36 n_15) 37 n_16) 33 n_17) 34 n_18) 35 n_19) 71 f_20) 65 n_21) 72 f_22) 66 n_23) 73 f_24) 64 n_25) 61 n_26) 62 n_27) 63 n_28) 68 n_29) 69 f_30) 70 f_31) 67 f_32) 38 i_35)) := x_trD hD prx_p0_7
    refine lv_iconst (v := 0) hx hb dX5_read_79 (by decide) ?_
    have hP : va_P D vwCl (prd y ad (.ref (ad 60)) (sI (sI (tJ (tI (tI (sI (tI (tI (tJ (sI (sI (sI (sI (sI (tI (sI (tI (sI (tI (sI (sI (sI (sI (sI σ 36 n_15) 37 n_16) 33 n_17) 34 n_18) 35 n_19) 71 f_20) 65 n_21) 72 f_22) 66 n_23) 73 f_24) 64 n_25) 61 n_26) 62 n_27) 63 n_28) 68 n_29) 69 f_30) 70 f_31) 67 f_32) 38 i_35) 42 f_1) 43 f_2) 44 f_3) 45 n_4) 46 n_5)) H := hP
    have hD : va_D A (prd y ad (.ref (ad 60)) (sI (sI (tJ (tI (tI (sI (tI (tI (tJ (sI (sI (sI (sI (sI (tI (sI (tI (sI (tI (sI (sI (sI (sI (sI σ 36 n_15) 37 n_16) 33 n_17) 34 n_18) 35 n_19) 71 f_20) 65 n_21) 72 f_22) 66 n_23) 73 f_24) 64 n_25) 61 n_26) 62 n_27) 63 n_28) 68 n_29) 69 f_30) 70 f_31) 67 f_32) 38 i_35) 42 f_1) 43 f_2) 44 f_3) 45 n_4) 46 n_5)) := hD
    exact x_zretW (v := 0) (u := (n_15, n_16, n_17, n_18, n_19, f_20, n_21, f_22, n_23, f_24, n_25, n_26, n_27, n_28, n_29, f_30, f_31, f_32, i_35, f_1, f_2, f_3, n_4, n_5)) hx hb hr hQ rfl (by (try dsimp only); exact ⟨by omega, by omega, by omega, by omega, by omega, by omega, by omega, by omega, by omega, by omega, by decide⟩) hP hD hK hS dX5_read_80 hlocks
  · have kc_33 : r_14.toInt ≠ 0 := by have h9 := c_33; simp only [ge_iff_le, gt_iff_lt, x_lt, x_le, x_eq, ne_eq, Int32.not_lt, Int32.not_le] at h9; simp only [Int32.reduceToInt] at h9; omega
    refine lv_iconst (v := 1) hx hb dX5_read_57 (by decide) ?_
    have hP : va_P D vwCl (prd y ad (.ref (ad 60)) (sI (sI (tJ (tI (tI (sI (tI (tI (tJ (sI (sI (sI (sI (sI (tI (sI (tI (sI (tI (sI (sI (sI (sI (sI σ 36 n_15) 37 n_16) 33 n_17) 34 n_18) 35 n_19) 71 f_20) 65 n_21) 72 f_22) 66 n_23) 73 f_24) 64 n_25) 61 n_26) 62 n_27) 63 n_28) 68 n_29) 69 f_30) 70 f_31) 67 f_32) 38 (-1)) 42 f_1) 43 f_2) 44 f_3) 45 n_4) 46 n_5)) H := hP
    have hD : va_D A (prd y ad (.ref (ad 60)) (sI (sI (tJ (tI (tI (sI (tI (tI (tJ (sI (sI (sI (sI (sI (tI (sI (tI (sI (tI (sI (sI (sI (sI (sI σ 36 n_15) 37 n_16) 33 n_17) 34 n_18) 35 n_19) 71 f_20) 65 n_21) 72 f_22) 66 n_23) 73 f_24) 64 n_25) 61 n_26) 62 n_27) 63 n_28) 68 n_29) 69 f_30) 70 f_31) 67 f_32) 38 (-1)) 42 f_1) 43 f_2) 44 f_3) 45 n_4) 46 n_5)) := hD
    exact x_zretW (v := 1) (u := (n_15, n_16, n_17, n_18, n_19, f_20, n_21, f_22, n_23, f_24, n_25, n_26, n_27, n_28, n_29, f_30, f_31, f_32, (-1), f_1, f_2, f_3, n_4, n_5)) hx hb hr hQ rfl (by (try dsimp only); exact ⟨by omega, by omega, by omega, by omega, by omega, by omega, by omega, by omega, by omega, by omega, by decide⟩) hP hD hK hS dX5_read_58 hlocks

