abbrev tbw_f0 (y : Nat → ClassId) (ad : Nat → Nat) (σ : OS) : List Value := [.ref (ad 131), .ref (ad 132), .ref (ad 133), .ref (ad 134), .ref (ad 135), .int (σ.1 136), .int (σ.1 137), .int (σ.1 138), .int (σ.1 139), .int (σ.1 140), .int (σ.1 141), .int (σ.1 142), .long (σ.2.1 143)]
abbrev tbw_f1 (y : Nat → ClassId) (ad : Nat → Nat) (σ : OS) : List Value := [.int (σ.1 81), .int (σ.1 82), .int (σ.1 83), .int (σ.1 84), .int (σ.1 85), .int (σ.1 86), .ref (ad 87), .int (σ.1 88), .ref (ad 89), .ref (ad 90), .ref (ad 91), .ref (ad 92), .ref (ad 93)]
abbrev tbw_f2 (y : Nat → ClassId) (ad : Nat → Nat) (σ : OS) : List Value := [.ref (ad 101), .ref (ad 102), .ref (ad 103), .ref (ad 104), .int (σ.1 105), .int (σ.1 106), .int (σ.1 107)]
def tbw (y : Nat → ClassId) (ad : Nat → Nat) (σ : OS) : va_W := [((ad 130), .inr (7, tbw_f0 y ad σ)), ((ad 80), .inr (5, tbw_f1 y ad σ)), ((ad 100), .inr (1, tbw_f2 y ad σ)), (ad 131, .inl (y 3, 1359, .inr (.inl (σ.2.2.2 131)))), (ad 132, .inl (y 2, 1359, .inl (σ.2.2.1 132))), (ad 133, .inl (y 2, 1359, .inl (σ.2.2.1 133))), (ad 134, .inl (y 2, 1359, .inl (σ.2.2.1 134))), (ad 135, .inl (y 2, 12, .inl (σ.2.2.1 135))), (ad 87, .inl (y 2, 4, .inl (σ.2.2.1 87))), (ad 89, .inl (y 3, 24, .inr (.inl (σ.2.2.2 89)))), (ad 90, .inl (y 2, 24, .inl (σ.2.2.1 90))), (ad 91, .inl (y 2, 350, .inl (σ.2.2.1 91))), (ad 92, .inl (y 2, 700, .inl (σ.2.2.1 92))), (ad 93, .inl (y 2, 700, .inl (σ.2.2.1 93))), (ad 101, .inl (y 3, 8, .inr (.inl (σ.2.2.2 101)))), (ad 102, .inl (y 2, 40, .inl (σ.2.2.1 102))), (ad 103, .inl (y 3, 40, .inr (.inl (σ.2.2.2 103)))), (ad 104, .inl (y 3, 40, .inr (.inl (σ.2.2.2 104))))]
theorem tbw_o0 {y : Nat → ClassId} {ad : Nat → Nat} {σ : OS} : (tbw y ad σ)[0]? = some ((ad 130), .inr (7, tbw_f0 y ad σ)) := rfl
theorem tbw_p0_5 {y : Nat → ClassId} {ad : Nat → Nat} {σ : OS} {v : Int32} : (tbw y ad σ).set 0 ((ad 130), .inr (7, (tbw_f0 y ad σ).set 5 (.int v))) = tbw y ad (sI σ 136 v) := rfl
theorem tbw_p0_6 {y : Nat → ClassId} {ad : Nat → Nat} {σ : OS} {v : Int32} : (tbw y ad σ).set 0 ((ad 130), .inr (7, (tbw_f0 y ad σ).set 6 (.int v))) = tbw y ad (sI σ 137 v) := rfl
theorem tbw_p0_7 {y : Nat → ClassId} {ad : Nat → Nat} {σ : OS} {v : Int32} : (tbw y ad σ).set 0 ((ad 130), .inr (7, (tbw_f0 y ad σ).set 7 (.int v))) = tbw y ad (sI σ 138 v) := rfl
theorem tbw_p0_8 {y : Nat → ClassId} {ad : Nat → Nat} {σ : OS} {v : Int32} : (tbw y ad σ).set 0 ((ad 130), .inr (7, (tbw_f0 y ad σ).set 8 (.int v))) = tbw y ad (sI σ 139 v) := rfl
theorem tbw_p0_9 {y : Nat → ClassId} {ad : Nat → Nat} {σ : OS} {v : Int32} : (tbw y ad σ).set 0 ((ad 130), .inr (7, (tbw_f0 y ad σ).set 9 (.int v))) = tbw y ad (sI σ 140 v) := rfl
theorem tbw_p0_10 {y : Nat → ClassId} {ad : Nat → Nat} {σ : OS} {v : Int32} : (tbw y ad σ).set 0 ((ad 130), .inr (7, (tbw_f0 y ad σ).set 10 (.int v))) = tbw y ad (sI σ 141 v) := rfl
theorem tbw_p0_11 {y : Nat → ClassId} {ad : Nat → Nat} {σ : OS} {v : Int32} : (tbw y ad σ).set 0 ((ad 130), .inr (7, (tbw_f0 y ad σ).set 11 (.int v))) = tbw y ad (sI σ 142 v) := rfl
theorem tbw_p0_12 {y : Nat → ClassId} {ad : Nat → Nat} {σ : OS} {v : Int64} : (tbw y ad σ).set 0 ((ad 130), .inr (7, (tbw_f0 y ad σ).set 12 (.long v))) = tbw y ad (sJ σ 143 v) := rfl
theorem tbw_o1 {y : Nat → ClassId} {ad : Nat → Nat} {σ : OS} : (tbw y ad σ)[1]? = some ((ad 80), .inr (5, tbw_f1 y ad σ)) := rfl
theorem tbw_p1_0 {y : Nat → ClassId} {ad : Nat → Nat} {σ : OS} {v : Int32} : (tbw y ad σ).set 1 ((ad 80), .inr (5, (tbw_f1 y ad σ).set 0 (.int v))) = tbw y ad (sI σ 81 v) := rfl
theorem tbw_p1_1 {y : Nat → ClassId} {ad : Nat → Nat} {σ : OS} {v : Int32} : (tbw y ad σ).set 1 ((ad 80), .inr (5, (tbw_f1 y ad σ).set 1 (.int v))) = tbw y ad (sI σ 82 v) := rfl
theorem tbw_p1_2 {y : Nat → ClassId} {ad : Nat → Nat} {σ : OS} {v : Int32} : (tbw y ad σ).set 1 ((ad 80), .inr (5, (tbw_f1 y ad σ).set 2 (.int v))) = tbw y ad (sI σ 83 v) := rfl
theorem tbw_p1_3 {y : Nat → ClassId} {ad : Nat → Nat} {σ : OS} {v : Int32} : (tbw y ad σ).set 1 ((ad 80), .inr (5, (tbw_f1 y ad σ).set 3 (.int v))) = tbw y ad (sI σ 84 v) := rfl
theorem tbw_p1_4 {y : Nat → ClassId} {ad : Nat → Nat} {σ : OS} {v : Int32} : (tbw y ad σ).set 1 ((ad 80), .inr (5, (tbw_f1 y ad σ).set 4 (.int v))) = tbw y ad (sI σ 85 v) := rfl
theorem tbw_p1_5 {y : Nat → ClassId} {ad : Nat → Nat} {σ : OS} {v : Int32} : (tbw y ad σ).set 1 ((ad 80), .inr (5, (tbw_f1 y ad σ).set 5 (.int v))) = tbw y ad (sI σ 86 v) := rfl
theorem tbw_p1_7 {y : Nat → ClassId} {ad : Nat → Nat} {σ : OS} {v : Int32} : (tbw y ad σ).set 1 ((ad 80), .inr (5, (tbw_f1 y ad σ).set 7 (.int v))) = tbw y ad (sI σ 88 v) := rfl
theorem tbw_o2 {y : Nat → ClassId} {ad : Nat → Nat} {σ : OS} : (tbw y ad σ)[2]? = some ((ad 100), .inr (1, tbw_f2 y ad σ)) := rfl
theorem tbw_p2_4 {y : Nat → ClassId} {ad : Nat → Nat} {σ : OS} {v : Int32} : (tbw y ad σ).set 2 ((ad 100), .inr (1, (tbw_f2 y ad σ).set 4 (.int v))) = tbw y ad (sI σ 105 v) := rfl
theorem tbw_p2_5 {y : Nat → ClassId} {ad : Nat → Nat} {σ : OS} {v : Int32} : (tbw y ad σ).set 2 ((ad 100), .inr (1, (tbw_f2 y ad σ).set 5 (.int v))) = tbw y ad (sI σ 106 v) := rfl
theorem tbw_p2_6 {y : Nat → ClassId} {ad : Nat → Nat} {σ : OS} {v : Int32} : (tbw y ad σ).set 2 ((ad 100), .inr (1, (tbw_f2 y ad σ).set 6 (.int v))) = tbw y ad (sI σ 107 v) := rfl
theorem tbw_a3 {y : Nat → ClassId} {ad : Nat → Nat} {σ : OS} : (tbw y ad σ)[3]? = some (ad 131, .inl (y 3, 1359, .inr (.inl (σ.2.2.2 131)))) := rfl
theorem tbw_s3 {y : Nat → ClassId} {ad : Nat → Nat} {σ : OS} {g : Nat → Int64} : (tbw y ad σ).set 3 (ad 131, .inl (y 3, 1359, .inr (.inl g))) = tbw y ad (tJ σ 131 g) := rfl
theorem tbw_a4 {y : Nat → ClassId} {ad : Nat → Nat} {σ : OS} : (tbw y ad σ)[4]? = some (ad 132, .inl (y 2, 1359, .inl (σ.2.2.1 132))) := rfl
theorem tbw_s4 {y : Nat → ClassId} {ad : Nat → Nat} {σ : OS} {g : Nat → Int32} : (tbw y ad σ).set 4 (ad 132, .inl (y 2, 1359, .inl g)) = tbw y ad (tI σ 132 g) := rfl
theorem tbw_a5 {y : Nat → ClassId} {ad : Nat → Nat} {σ : OS} : (tbw y ad σ)[5]? = some (ad 133, .inl (y 2, 1359, .inl (σ.2.2.1 133))) := rfl
theorem tbw_s5 {y : Nat → ClassId} {ad : Nat → Nat} {σ : OS} {g : Nat → Int32} : (tbw y ad σ).set 5 (ad 133, .inl (y 2, 1359, .inl g)) = tbw y ad (tI σ 133 g) := rfl
theorem tbw_a6 {y : Nat → ClassId} {ad : Nat → Nat} {σ : OS} : (tbw y ad σ)[6]? = some (ad 134, .inl (y 2, 1359, .inl (σ.2.2.1 134))) := rfl
theorem tbw_s6 {y : Nat → ClassId} {ad : Nat → Nat} {σ : OS} {g : Nat → Int32} : (tbw y ad σ).set 6 (ad 134, .inl (y 2, 1359, .inl g)) = tbw y ad (tI σ 134 g) := rfl
theorem tbw_a7 {y : Nat → ClassId} {ad : Nat → Nat} {σ : OS} : (tbw y ad σ)[7]? = some (ad 135, .inl (y 2, 12, .inl (σ.2.2.1 135))) := rfl
theorem tbw_s7 {y : Nat → ClassId} {ad : Nat → Nat} {σ : OS} {g : Nat → Int32} : (tbw y ad σ).set 7 (ad 135, .inl (y 2, 12, .inl g)) = tbw y ad (tI σ 135 g) := rfl
theorem tbw_a8 {y : Nat → ClassId} {ad : Nat → Nat} {σ : OS} : (tbw y ad σ)[8]? = some (ad 87, .inl (y 2, 4, .inl (σ.2.2.1 87))) := rfl
theorem tbw_s8 {y : Nat → ClassId} {ad : Nat → Nat} {σ : OS} {g : Nat → Int32} : (tbw y ad σ).set 8 (ad 87, .inl (y 2, 4, .inl g)) = tbw y ad (tI σ 87 g) := rfl
theorem tbw_a9 {y : Nat → ClassId} {ad : Nat → Nat} {σ : OS} : (tbw y ad σ)[9]? = some (ad 89, .inl (y 3, 24, .inr (.inl (σ.2.2.2 89)))) := rfl
theorem tbw_s9 {y : Nat → ClassId} {ad : Nat → Nat} {σ : OS} {g : Nat → Int64} : (tbw y ad σ).set 9 (ad 89, .inl (y 3, 24, .inr (.inl g))) = tbw y ad (tJ σ 89 g) := rfl
theorem tbw_a10 {y : Nat → ClassId} {ad : Nat → Nat} {σ : OS} : (tbw y ad σ)[10]? = some (ad 90, .inl (y 2, 24, .inl (σ.2.2.1 90))) := rfl
theorem tbw_s10 {y : Nat → ClassId} {ad : Nat → Nat} {σ : OS} {g : Nat → Int32} : (tbw y ad σ).set 10 (ad 90, .inl (y 2, 24, .inl g)) = tbw y ad (tI σ 90 g) := rfl
theorem tbw_a11 {y : Nat → ClassId} {ad : Nat → Nat} {σ : OS} : (tbw y ad σ)[11]? = some (ad 91, .inl (y 2, 350, .inl (σ.2.2.1 91))) := rfl
theorem tbw_s11 {y : Nat → ClassId} {ad : Nat → Nat} {σ : OS} {g : Nat → Int32} : (tbw y ad σ).set 11 (ad 91, .inl (y 2, 350, .inl g)) = tbw y ad (tI σ 91 g) := rfl
theorem tbw_a12 {y : Nat → ClassId} {ad : Nat → Nat} {σ : OS} : (tbw y ad σ)[12]? = some (ad 92, .inl (y 2, 700, .inl (σ.2.2.1 92))) := rfl
theorem tbw_s12 {y : Nat → ClassId} {ad : Nat → Nat} {σ : OS} {g : Nat → Int32} : (tbw y ad σ).set 12 (ad 92, .inl (y 2, 700, .inl g)) = tbw y ad (tI σ 92 g) := rfl
theorem tbw_a13 {y : Nat → ClassId} {ad : Nat → Nat} {σ : OS} : (tbw y ad σ)[13]? = some (ad 93, .inl (y 2, 700, .inl (σ.2.2.1 93))) := rfl
theorem tbw_s13 {y : Nat → ClassId} {ad : Nat → Nat} {σ : OS} {g : Nat → Int32} : (tbw y ad σ).set 13 (ad 93, .inl (y 2, 700, .inl g)) = tbw y ad (tI σ 93 g) := rfl
theorem tbw_a14 {y : Nat → ClassId} {ad : Nat → Nat} {σ : OS} : (tbw y ad σ)[14]? = some (ad 101, .inl (y 3, 8, .inr (.inl (σ.2.2.2 101)))) := rfl
theorem tbw_s14 {y : Nat → ClassId} {ad : Nat → Nat} {σ : OS} {g : Nat → Int64} : (tbw y ad σ).set 14 (ad 101, .inl (y 3, 8, .inr (.inl g))) = tbw y ad (tJ σ 101 g) := rfl
theorem tbw_a15 {y : Nat → ClassId} {ad : Nat → Nat} {σ : OS} : (tbw y ad σ)[15]? = some (ad 102, .inl (y 2, 40, .inl (σ.2.2.1 102))) := rfl
theorem tbw_s15 {y : Nat → ClassId} {ad : Nat → Nat} {σ : OS} {g : Nat → Int32} : (tbw y ad σ).set 15 (ad 102, .inl (y 2, 40, .inl g)) = tbw y ad (tI σ 102 g) := rfl
theorem tbw_a16 {y : Nat → ClassId} {ad : Nat → Nat} {σ : OS} : (tbw y ad σ)[16]? = some (ad 103, .inl (y 3, 40, .inr (.inl (σ.2.2.2 103)))) := rfl
theorem tbw_s16 {y : Nat → ClassId} {ad : Nat → Nat} {σ : OS} {g : Nat → Int64} : (tbw y ad σ).set 16 (ad 103, .inl (y 3, 40, .inr (.inl g))) = tbw y ad (tJ σ 103 g) := rfl
theorem tbw_a17 {y : Nat → ClassId} {ad : Nat → Nat} {σ : OS} : (tbw y ad σ)[17]? = some (ad 104, .inl (y 3, 40, .inr (.inl (σ.2.2.2 104)))) := rfl
theorem tbw_s17 {y : Nat → ClassId} {ad : Nat → Nat} {σ : OS} {g : Nat → Int64} : (tbw y ad σ).set 17 (ad 104, .inl (y 3, 40, .inr (.inl g))) = tbw y ad (tJ σ 104 g) := rfl
abbrev tcw_f0 (y : Nat → ClassId) (ad : Nat → Nat) (σ : OS) : List Value := [.ref (ad 151), .ref (ad 152), .ref (ad 153), .ref (ad 154), .ref (ad 155), .int (σ.1 156), .int (σ.1 157), .int (σ.1 158), .int (σ.1 159), .int (σ.1 160), .int (σ.1 161), .int (σ.1 162), .long (σ.2.1 163)]
abbrev tcw_f1 (y : Nat → ClassId) (ad : Nat → Nat) (σ : OS) : List Value := [.int (σ.1 81), .int (σ.1 82), .int (σ.1 83), .int (σ.1 84), .int (σ.1 85), .int (σ.1 86), .ref (ad 87), .int (σ.1 88), .ref (ad 89), .ref (ad 90), .ref (ad 91), .ref (ad 92), .ref (ad 93)]
abbrev tcw_f2 (y : Nat → ClassId) (ad : Nat → Nat) (σ : OS) : List Value := [.ref (ad 131), .ref (ad 132), .ref (ad 133), .ref (ad 134), .ref (ad 135), .int (σ.1 136), .int (σ.1 137), .int (σ.1 138), .int (σ.1 139), .int (σ.1 140), .int (σ.1 141), .int (σ.1 142), .long (σ.2.1 143)]
def tcw (y : Nat → ClassId) (ad : Nat → Nat) (σ : OS) : va_W := [((ad 150), .inr (7, tcw_f0 y ad σ)), ((ad 80), .inr (5, tcw_f1 y ad σ)), ((ad 130), .inr (7, tcw_f2 y ad σ)), (ad 151, .inl (y 3, 1359, .inr (.inl (σ.2.2.2 151)))), (ad 152, .inl (y 2, 1359, .inl (σ.2.2.1 152))), (ad 153, .inl (y 2, 1359, .inl (σ.2.2.1 153))), (ad 154, .inl (y 2, 1359, .inl (σ.2.2.1 154))), (ad 155, .inl (y 2, 12, .inl (σ.2.2.1 155))), (ad 87, .inl (y 2, 4, .inl (σ.2.2.1 87))), (ad 89, .inl (y 3, 24, .inr (.inl (σ.2.2.2 89)))), (ad 90, .inl (y 2, 24, .inl (σ.2.2.1 90))), (ad 91, .inl (y 2, 350, .inl (σ.2.2.1 91))), (ad 92, .inl (y 2, 700, .inl (σ.2.2.1 92))), (ad 93, .inl (y 2, 700, .inl (σ.2.2.1 93))), (ad 131, .inl (y 3, 1359, .inr (.inl (σ.2.2.2 131)))), (ad 132, .inl (y 2, 1359, .inl (σ.2.2.1 132))), (ad 133, .inl (y 2, 1359, .inl (σ.2.2.1 133))), (ad 134, .inl (y 2, 1359, .inl (σ.2.2.1 134))), (ad 135, .inl (y 2, 12, .inl (σ.2.2.1 135)))]
theorem tcw_o0 {y : Nat → ClassId} {ad : Nat → Nat} {σ : OS} : (tcw y ad σ)[0]? = some ((ad 150), .inr (7, tcw_f0 y ad σ)) := rfl
theorem tcw_p0_5 {y : Nat → ClassId} {ad : Nat → Nat} {σ : OS} {v : Int32} : (tcw y ad σ).set 0 ((ad 150), .inr (7, (tcw_f0 y ad σ).set 5 (.int v))) = tcw y ad (sI σ 156 v) := rfl
theorem tcw_p0_6 {y : Nat → ClassId} {ad : Nat → Nat} {σ : OS} {v : Int32} : (tcw y ad σ).set 0 ((ad 150), .inr (7, (tcw_f0 y ad σ).set 6 (.int v))) = tcw y ad (sI σ 157 v) := rfl
theorem tcw_p0_7 {y : Nat → ClassId} {ad : Nat → Nat} {σ : OS} {v : Int32} : (tcw y ad σ).set 0 ((ad 150), .inr (7, (tcw_f0 y ad σ).set 7 (.int v))) = tcw y ad (sI σ 158 v) := rfl
theorem tcw_p0_8 {y : Nat → ClassId} {ad : Nat → Nat} {σ : OS} {v : Int32} : (tcw y ad σ).set 0 ((ad 150), .inr (7, (tcw_f0 y ad σ).set 8 (.int v))) = tcw y ad (sI σ 159 v) := rfl
theorem tcw_p0_9 {y : Nat → ClassId} {ad : Nat → Nat} {σ : OS} {v : Int32} : (tcw y ad σ).set 0 ((ad 150), .inr (7, (tcw_f0 y ad σ).set 9 (.int v))) = tcw y ad (sI σ 160 v) := rfl
theorem tcw_p0_10 {y : Nat → ClassId} {ad : Nat → Nat} {σ : OS} {v : Int32} : (tcw y ad σ).set 0 ((ad 150), .inr (7, (tcw_f0 y ad σ).set 10 (.int v))) = tcw y ad (sI σ 161 v) := rfl
theorem tcw_p0_11 {y : Nat → ClassId} {ad : Nat → Nat} {σ : OS} {v : Int32} : (tcw y ad σ).set 0 ((ad 150), .inr (7, (tcw_f0 y ad σ).set 11 (.int v))) = tcw y ad (sI σ 162 v) := rfl
theorem tcw_p0_12 {y : Nat → ClassId} {ad : Nat → Nat} {σ : OS} {v : Int64} : (tcw y ad σ).set 0 ((ad 150), .inr (7, (tcw_f0 y ad σ).set 12 (.long v))) = tcw y ad (sJ σ 163 v) := rfl
theorem tcw_o1 {y : Nat → ClassId} {ad : Nat → Nat} {σ : OS} : (tcw y ad σ)[1]? = some ((ad 80), .inr (5, tcw_f1 y ad σ)) := rfl
theorem tcw_p1_0 {y : Nat → ClassId} {ad : Nat → Nat} {σ : OS} {v : Int32} : (tcw y ad σ).set 1 ((ad 80), .inr (5, (tcw_f1 y ad σ).set 0 (.int v))) = tcw y ad (sI σ 81 v) := rfl
theorem tcw_p1_1 {y : Nat → ClassId} {ad : Nat → Nat} {σ : OS} {v : Int32} : (tcw y ad σ).set 1 ((ad 80), .inr (5, (tcw_f1 y ad σ).set 1 (.int v))) = tcw y ad (sI σ 82 v) := rfl
theorem tcw_p1_2 {y : Nat → ClassId} {ad : Nat → Nat} {σ : OS} {v : Int32} : (tcw y ad σ).set 1 ((ad 80), .inr (5, (tcw_f1 y ad σ).set 2 (.int v))) = tcw y ad (sI σ 83 v) := rfl
theorem tcw_p1_3 {y : Nat → ClassId} {ad : Nat → Nat} {σ : OS} {v : Int32} : (tcw y ad σ).set 1 ((ad 80), .inr (5, (tcw_f1 y ad σ).set 3 (.int v))) = tcw y ad (sI σ 84 v) := rfl
theorem tcw_p1_4 {y : Nat → ClassId} {ad : Nat → Nat} {σ : OS} {v : Int32} : (tcw y ad σ).set 1 ((ad 80), .inr (5, (tcw_f1 y ad σ).set 4 (.int v))) = tcw y ad (sI σ 85 v) := rfl
theorem tcw_p1_5 {y : Nat → ClassId} {ad : Nat → Nat} {σ : OS} {v : Int32} : (tcw y ad σ).set 1 ((ad 80), .inr (5, (tcw_f1 y ad σ).set 5 (.int v))) = tcw y ad (sI σ 86 v) := rfl
theorem tcw_p1_7 {y : Nat → ClassId} {ad : Nat → Nat} {σ : OS} {v : Int32} : (tcw y ad σ).set 1 ((ad 80), .inr (5, (tcw_f1 y ad σ).set 7 (.int v))) = tcw y ad (sI σ 88 v) := rfl
theorem tcw_o2 {y : Nat → ClassId} {ad : Nat → Nat} {σ : OS} : (tcw y ad σ)[2]? = some ((ad 130), .inr (7, tcw_f2 y ad σ)) := rfl
theorem tcw_p2_5 {y : Nat → ClassId} {ad : Nat → Nat} {σ : OS} {v : Int32} : (tcw y ad σ).set 2 ((ad 130), .inr (7, (tcw_f2 y ad σ).set 5 (.int v))) = tcw y ad (sI σ 136 v) := rfl
theorem tcw_p2_6 {y : Nat → ClassId} {ad : Nat → Nat} {σ : OS} {v : Int32} : (tcw y ad σ).set 2 ((ad 130), .inr (7, (tcw_f2 y ad σ).set 6 (.int v))) = tcw y ad (sI σ 137 v) := rfl
theorem tcw_p2_7 {y : Nat → ClassId} {ad : Nat → Nat} {σ : OS} {v : Int32} : (tcw y ad σ).set 2 ((ad 130), .inr (7, (tcw_f2 y ad σ).set 7 (.int v))) = tcw y ad (sI σ 138 v) := rfl
theorem tcw_p2_8 {y : Nat → ClassId} {ad : Nat → Nat} {σ : OS} {v : Int32} : (tcw y ad σ).set 2 ((ad 130), .inr (7, (tcw_f2 y ad σ).set 8 (.int v))) = tcw y ad (sI σ 139 v) := rfl
theorem tcw_p2_9 {y : Nat → ClassId} {ad : Nat → Nat} {σ : OS} {v : Int32} : (tcw y ad σ).set 2 ((ad 130), .inr (7, (tcw_f2 y ad σ).set 9 (.int v))) = tcw y ad (sI σ 140 v) := rfl
theorem tcw_p2_10 {y : Nat → ClassId} {ad : Nat → Nat} {σ : OS} {v : Int32} : (tcw y ad σ).set 2 ((ad 130), .inr (7, (tcw_f2 y ad σ).set 10 (.int v))) = tcw y ad (sI σ 141 v) := rfl
theorem tcw_p2_11 {y : Nat → ClassId} {ad : Nat → Nat} {σ : OS} {v : Int32} : (tcw y ad σ).set 2 ((ad 130), .inr (7, (tcw_f2 y ad σ).set 11 (.int v))) = tcw y ad (sI σ 142 v) := rfl
theorem tcw_p2_12 {y : Nat → ClassId} {ad : Nat → Nat} {σ : OS} {v : Int64} : (tcw y ad σ).set 2 ((ad 130), .inr (7, (tcw_f2 y ad σ).set 12 (.long v))) = tcw y ad (sJ σ 143 v) := rfl
theorem tcw_a3 {y : Nat → ClassId} {ad : Nat → Nat} {σ : OS} : (tcw y ad σ)[3]? = some (ad 151, .inl (y 3, 1359, .inr (.inl (σ.2.2.2 151)))) := rfl
theorem tcw_s3 {y : Nat → ClassId} {ad : Nat → Nat} {σ : OS} {g : Nat → Int64} : (tcw y ad σ).set 3 (ad 151, .inl (y 3, 1359, .inr (.inl g))) = tcw y ad (tJ σ 151 g) := rfl
theorem tcw_a4 {y : Nat → ClassId} {ad : Nat → Nat} {σ : OS} : (tcw y ad σ)[4]? = some (ad 152, .inl (y 2, 1359, .inl (σ.2.2.1 152))) := rfl
theorem tcw_s4 {y : Nat → ClassId} {ad : Nat → Nat} {σ : OS} {g : Nat → Int32} : (tcw y ad σ).set 4 (ad 152, .inl (y 2, 1359, .inl g)) = tcw y ad (tI σ 152 g) := rfl
theorem tcw_a5 {y : Nat → ClassId} {ad : Nat → Nat} {σ : OS} : (tcw y ad σ)[5]? = some (ad 153, .inl (y 2, 1359, .inl (σ.2.2.1 153))) := rfl
theorem tcw_s5 {y : Nat → ClassId} {ad : Nat → Nat} {σ : OS} {g : Nat → Int32} : (tcw y ad σ).set 5 (ad 153, .inl (y 2, 1359, .inl g)) = tcw y ad (tI σ 153 g) := rfl
theorem tcw_a6 {y : Nat → ClassId} {ad : Nat → Nat} {σ : OS} : (tcw y ad σ)[6]? = some (ad 154, .inl (y 2, 1359, .inl (σ.2.2.1 154))) := rfl
theorem tcw_s6 {y : Nat → ClassId} {ad : Nat → Nat} {σ : OS} {g : Nat → Int32} : (tcw y ad σ).set 6 (ad 154, .inl (y 2, 1359, .inl g)) = tcw y ad (tI σ 154 g) := rfl
theorem tcw_a7 {y : Nat → ClassId} {ad : Nat → Nat} {σ : OS} : (tcw y ad σ)[7]? = some (ad 155, .inl (y 2, 12, .inl (σ.2.2.1 155))) := rfl
theorem tcw_s7 {y : Nat → ClassId} {ad : Nat → Nat} {σ : OS} {g : Nat → Int32} : (tcw y ad σ).set 7 (ad 155, .inl (y 2, 12, .inl g)) = tcw y ad (tI σ 155 g) := rfl
theorem tcw_a8 {y : Nat → ClassId} {ad : Nat → Nat} {σ : OS} : (tcw y ad σ)[8]? = some (ad 87, .inl (y 2, 4, .inl (σ.2.2.1 87))) := rfl
theorem tcw_s8 {y : Nat → ClassId} {ad : Nat → Nat} {σ : OS} {g : Nat → Int32} : (tcw y ad σ).set 8 (ad 87, .inl (y 2, 4, .inl g)) = tcw y ad (tI σ 87 g) := rfl
theorem tcw_a9 {y : Nat → ClassId} {ad : Nat → Nat} {σ : OS} : (tcw y ad σ)[9]? = some (ad 89, .inl (y 3, 24, .inr (.inl (σ.2.2.2 89)))) := rfl
theorem tcw_s9 {y : Nat → ClassId} {ad : Nat → Nat} {σ : OS} {g : Nat → Int64} : (tcw y ad σ).set 9 (ad 89, .inl (y 3, 24, .inr (.inl g))) = tcw y ad (tJ σ 89 g) := rfl
theorem tcw_a10 {y : Nat → ClassId} {ad : Nat → Nat} {σ : OS} : (tcw y ad σ)[10]? = some (ad 90, .inl (y 2, 24, .inl (σ.2.2.1 90))) := rfl
theorem tcw_s10 {y : Nat → ClassId} {ad : Nat → Nat} {σ : OS} {g : Nat → Int32} : (tcw y ad σ).set 10 (ad 90, .inl (y 2, 24, .inl g)) = tcw y ad (tI σ 90 g) := rfl
theorem tcw_a11 {y : Nat → ClassId} {ad : Nat → Nat} {σ : OS} : (tcw y ad σ)[11]? = some (ad 91, .inl (y 2, 350, .inl (σ.2.2.1 91))) := rfl
theorem tcw_s11 {y : Nat → ClassId} {ad : Nat → Nat} {σ : OS} {g : Nat → Int32} : (tcw y ad σ).set 11 (ad 91, .inl (y 2, 350, .inl g)) = tcw y ad (tI σ 91 g) := rfl
theorem tcw_a12 {y : Nat → ClassId} {ad : Nat → Nat} {σ : OS} : (tcw y ad σ)[12]? = some (ad 92, .inl (y 2, 700, .inl (σ.2.2.1 92))) := rfl
theorem tcw_s12 {y : Nat → ClassId} {ad : Nat → Nat} {σ : OS} {g : Nat → Int32} : (tcw y ad σ).set 12 (ad 92, .inl (y 2, 700, .inl g)) = tcw y ad (tI σ 92 g) := rfl
theorem tcw_a13 {y : Nat → ClassId} {ad : Nat → Nat} {σ : OS} : (tcw y ad σ)[13]? = some (ad 93, .inl (y 2, 700, .inl (σ.2.2.1 93))) := rfl
theorem tcw_s13 {y : Nat → ClassId} {ad : Nat → Nat} {σ : OS} {g : Nat → Int32} : (tcw y ad σ).set 13 (ad 93, .inl (y 2, 700, .inl g)) = tcw y ad (tI σ 93 g) := rfl
theorem tcw_a14 {y : Nat → ClassId} {ad : Nat → Nat} {σ : OS} : (tcw y ad σ)[14]? = some (ad 131, .inl (y 3, 1359, .inr (.inl (σ.2.2.2 131)))) := rfl
theorem tcw_s14 {y : Nat → ClassId} {ad : Nat → Nat} {σ : OS} {g : Nat → Int64} : (tcw y ad σ).set 14 (ad 131, .inl (y 3, 1359, .inr (.inl g))) = tcw y ad (tJ σ 131 g) := rfl
theorem tcw_a15 {y : Nat → ClassId} {ad : Nat → Nat} {σ : OS} : (tcw y ad σ)[15]? = some (ad 132, .inl (y 2, 1359, .inl (σ.2.2.1 132))) := rfl
theorem tcw_s15 {y : Nat → ClassId} {ad : Nat → Nat} {σ : OS} {g : Nat → Int32} : (tcw y ad σ).set 15 (ad 132, .inl (y 2, 1359, .inl g)) = tcw y ad (tI σ 132 g) := rfl
theorem tcw_a16 {y : Nat → ClassId} {ad : Nat → Nat} {σ : OS} : (tcw y ad σ)[16]? = some (ad 133, .inl (y 2, 1359, .inl (σ.2.2.1 133))) := rfl
theorem tcw_s16 {y : Nat → ClassId} {ad : Nat → Nat} {σ : OS} {g : Nat → Int32} : (tcw y ad σ).set 16 (ad 133, .inl (y 2, 1359, .inl g)) = tcw y ad (tI σ 133 g) := rfl
theorem tcw_a17 {y : Nat → ClassId} {ad : Nat → Nat} {σ : OS} : (tcw y ad σ)[17]? = some (ad 134, .inl (y 2, 1359, .inl (σ.2.2.1 134))) := rfl
theorem tcw_s17 {y : Nat → ClassId} {ad : Nat → Nat} {σ : OS} {g : Nat → Int32} : (tcw y ad σ).set 17 (ad 134, .inl (y 2, 1359, .inl g)) = tcw y ad (tI σ 134 g) := rfl
theorem tcw_a18 {y : Nat → ClassId} {ad : Nat → Nat} {σ : OS} : (tcw y ad σ)[18]? = some (ad 135, .inl (y 2, 12, .inl (σ.2.2.1 135))) := rfl
theorem tcw_s18 {y : Nat → ClassId} {ad : Nat → Nat} {σ : OS} {g : Nat → Int32} : (tcw y ad σ).set 18 (ad 135, .inl (y 2, 12, .inl g)) = tcw y ad (tI σ 135 g) := rfl
abbrev inw_f0 (y : Nat → ClassId) (ad : Nat → Nat) (σ : OS) : List Value := [.ref (ad 101), .ref (ad 102), .ref (ad 103), .ref (ad 104), .int (σ.1 105), .int (σ.1 106), .int (σ.1 107)]
def inw (y : Nat → ClassId) (ad : Nat → Nat) (σ : OS) : va_W := [((ad 100), .inr (1, inw_f0 y ad σ)), (ad 101, .inl (y 3, 8, .inr (.inl (σ.2.2.2 101)))), (ad 102, .inl (y 2, 40, .inl (σ.2.2.1 102))), (ad 103, .inl (y 3, 40, .inr (.inl (σ.2.2.2 103)))), (ad 104, .inl (y 3, 40, .inr (.inl (σ.2.2.2 104))))]
theorem inw_o0 {y : Nat → ClassId} {ad : Nat → Nat} {σ : OS} : (inw y ad σ)[0]? = some ((ad 100), .inr (1, inw_f0 y ad σ)) := rfl
theorem inw_p0_4 {y : Nat → ClassId} {ad : Nat → Nat} {σ : OS} {v : Int32} : (inw y ad σ).set 0 ((ad 100), .inr (1, (inw_f0 y ad σ).set 4 (.int v))) = inw y ad (sI σ 105 v) := rfl
theorem inw_p0_5 {y : Nat → ClassId} {ad : Nat → Nat} {σ : OS} {v : Int32} : (inw y ad σ).set 0 ((ad 100), .inr (1, (inw_f0 y ad σ).set 5 (.int v))) = inw y ad (sI σ 106 v) := rfl
theorem inw_p0_6 {y : Nat → ClassId} {ad : Nat → Nat} {σ : OS} {v : Int32} : (inw y ad σ).set 0 ((ad 100), .inr (1, (inw_f0 y ad σ).set 6 (.int v))) = inw y ad (sI σ 107 v) := rfl
theorem inw_a1 {y : Nat → ClassId} {ad : Nat → Nat} {σ : OS} : (inw y ad σ)[1]? = some (ad 101, .inl (y 3, 8, .inr (.inl (σ.2.2.2 101)))) := rfl
theorem inw_s1 {y : Nat → ClassId} {ad : Nat → Nat} {σ : OS} {g : Nat → Int64} : (inw y ad σ).set 1 (ad 101, .inl (y 3, 8, .inr (.inl g))) = inw y ad (tJ σ 101 g) := rfl
theorem inw_a2 {y : Nat → ClassId} {ad : Nat → Nat} {σ : OS} : (inw y ad σ)[2]? = some (ad 102, .inl (y 2, 40, .inl (σ.2.2.1 102))) := rfl
theorem inw_s2 {y : Nat → ClassId} {ad : Nat → Nat} {σ : OS} {g : Nat → Int32} : (inw y ad σ).set 2 (ad 102, .inl (y 2, 40, .inl g)) = inw y ad (tI σ 102 g) := rfl
theorem inw_a3 {y : Nat → ClassId} {ad : Nat → Nat} {σ : OS} : (inw y ad σ)[3]? = some (ad 103, .inl (y 3, 40, .inr (.inl (σ.2.2.2 103)))) := rfl
theorem inw_s3 {y : Nat → ClassId} {ad : Nat → Nat} {σ : OS} {g : Nat → Int64} : (inw y ad σ).set 3 (ad 103, .inl (y 3, 40, .inr (.inl g))) = inw y ad (tJ σ 103 g) := rfl
theorem inw_a4 {y : Nat → ClassId} {ad : Nat → Nat} {σ : OS} : (inw y ad σ)[4]? = some (ad 104, .inl (y 3, 40, .inr (.inl (σ.2.2.2 104)))) := rfl
theorem inw_s4 {y : Nat → ClassId} {ad : Nat → Nat} {σ : OS} {g : Nat → Int64} : (inw y ad σ).set 4 (ad 104, .inl (y 3, 40, .inr (.inl g))) = inw y ad (tJ σ 104 g) := rfl
abbrev grw_f0 (y : Nat → ClassId) (ad : Nat → Nat) (σ : OS) : List Value := [.ref (ad 181), .ref (ad 182), .int (σ.1 183)]
def grw (y : Nat → ClassId) (ad : Nat → Nat) (σ : OS) : va_W := [((ad 180), .inr (0, grw_f0 y ad σ)), (ad 181, .inl (y 2, 8, .inl (σ.2.2.1 181))), (ad 182, .inl (y 2, 8, .inl (σ.2.2.1 182)))]
theorem grw_o0 {y : Nat → ClassId} {ad : Nat → Nat} {σ : OS} : (grw y ad σ)[0]? = some ((ad 180), .inr (0, grw_f0 y ad σ)) := rfl
theorem grw_p0_2 {y : Nat → ClassId} {ad : Nat → Nat} {σ : OS} {v : Int32} : (grw y ad σ).set 0 ((ad 180), .inr (0, (grw_f0 y ad σ).set 2 (.int v))) = grw y ad (sI σ 183 v) := rfl
theorem grw_a1 {y : Nat → ClassId} {ad : Nat → Nat} {σ : OS} : (grw y ad σ)[1]? = some (ad 181, .inl (y 2, 8, .inl (σ.2.2.1 181))) := rfl
theorem grw_s1 {y : Nat → ClassId} {ad : Nat → Nat} {σ : OS} {g : Nat → Int32} : (grw y ad σ).set 1 (ad 181, .inl (y 2, 8, .inl g)) = grw y ad (tI σ 181 g) := rfl
theorem grw_a2 {y : Nat → ClassId} {ad : Nat → Nat} {σ : OS} : (grw y ad σ)[2]? = some (ad 182, .inl (y 2, 8, .inl (σ.2.2.1 182))) := rfl
theorem grw_s2 {y : Nat → ClassId} {ad : Nat → Nat} {σ : OS} {g : Nat → Int32} : (grw y ad σ).set 2 (ad 182, .inl (y 2, 8, .inl g)) = grw y ad (tI σ 182 g) := rfl
theorem b_cpyJ {f g : Nat → Int64} {lo hi : Int} {a b n : Nat} (hf : bJ f lo hi) (hg : bJ g lo hi) : bJ (va_cpy f g a b n) lo hi := fun i => by
  unfold va_cpy
  split
  · exact hf _
  · exact hg _
theorem dX8_begin_0 : decode cX8_begin 0 = .ok (.aload_n 0, 1) := by decide +kernel
theorem dX8_begin_1 : decode cX8_begin 1 = .ok (.invokevirtual 56, 3) := by decide +kernel
theorem dX8_begin_4 : decode cX8_begin 4 = .ok (.aload_n 0, 1) := by decide +kernel
theorem dX8_begin_5 : decode cX8_begin 5 = .ok (.bipush (-2), 2) := by decide +kernel
theorem dX8_begin_7 : decode cX8_begin 7 = .ok (.putfield 28, 3) := by decide +kernel
theorem dX8_begin_10 : decode cX8_begin 10 = .ok (.aload_n 0, 1) := by decide +kernel
theorem dX8_begin_11 : decode cX8_begin 11 = .ok (.aload_n 1, 1) := by decide +kernel
theorem dX8_begin_12 : decode cX8_begin 12 = .ok (.getfield 59, 3) := by decide +kernel
theorem dX8_begin_15 : decode cX8_begin 15 = .ok (.putfield 38, 3) := by decide +kernel
theorem dX8_begin_18 : decode cX8_begin 18 = .ok (.aload_n 0, 1) := by decide +kernel
theorem dX8_begin_19 : decode cX8_begin 19 = .ok (.aload_n 0, 1) := by decide +kernel
theorem dX8_begin_20 : decode cX8_begin 20 = .ok (.getfield 38, 3) := by decide +kernel
theorem dX8_begin_23 : decode cX8_begin 23 = .ok (.iconst 1, 1) := by decide +kernel
theorem dX8_begin_24 : decode cX8_begin 24 = .ok (.iadd, 1) := by decide +kernel
theorem dX8_begin_25 : decode cX8_begin 25 = .ok (.aload_n 1, 1) := by decide +kernel
theorem dX8_begin_26 : decode cX8_begin 26 = .ok (.getfield 60, 3) := by decide +kernel
theorem dX8_begin_29 : decode cX8_begin 29 = .ok (.iadd, 1) := by decide +kernel
theorem dX8_begin_30 : decode cX8_begin 30 = .ok (.putfield 41, 3) := by decide +kernel
theorem dX8_begin_33 : decode cX8_begin 33 = .ok (.aload_n 0, 1) := by decide +kernel
theorem dX8_begin_34 : decode cX8_begin 34 = .ok (.aload_n 0, 1) := by decide +kernel
theorem dX8_begin_35 : decode cX8_begin 35 = .ok (.getfield 41, 3) := by decide +kernel
theorem dX8_begin_38 : decode cX8_begin 38 = .ok (.putfield 44, 3) := by decide +kernel
theorem dX8_begin_41 : decode cX8_begin 41 = .ok (.iconst 0, 1) := by decide +kernel
theorem dX8_begin_42 : decode cX8_begin 42 = .ok (.istore_n 3, 1) := by decide +kernel
theorem dX8_begin_43 : decode cX8_begin 43 = .ok (.iload_n 3, 1) := by decide +kernel
theorem dX8_begin_44 : decode cX8_begin 44 = .ok (.aload_n 0, 1) := by decide +kernel
theorem dX8_begin_45 : decode cX8_begin 45 = .ok (.getfield 38, 3) := by decide +kernel
theorem dX8_begin_48 : decode cX8_begin 48 = .ok (.if_icmp .ge 24, 3) := by decide +kernel
theorem dX8_begin_51 : decode cX8_begin 51 = .ok (.iload_n 3, 1) := by decide +kernel
theorem dX8_begin_52 : decode cX8_begin 52 = .ok (.aload_n 2, 1) := by decide +kernel
theorem dX8_begin_53 : decode cX8_begin 53 = .ok (.arraylength, 1) := by decide +kernel
theorem dX8_begin_54 : decode cX8_begin 54 = .ok (.if_icmp .ge 18, 3) := by decide +kernel
theorem dX8_begin_57 : decode cX8_begin 57 = .ok (.aload_n 0, 1) := by decide +kernel
theorem dX8_begin_58 : decode cX8_begin 58 = .ok (.getfield 11, 3) := by decide +kernel
theorem dX8_begin_61 : decode cX8_begin 61 = .ok (.iload_n 3, 1) := by decide +kernel
theorem dX8_begin_62 : decode cX8_begin 62 = .ok (.aload_n 2, 1) := by decide +kernel
theorem dX8_begin_63 : decode cX8_begin 63 = .ok (.iload_n 3, 1) := by decide +kernel
theorem dX8_begin_64 : decode cX8_begin 64 = .ok (.laload, 1) := by decide +kernel
theorem dX8_begin_65 : decode cX8_begin 65 = .ok (.lastore, 1) := by decide +kernel
theorem dX8_begin_66 : decode cX8_begin 66 = .ok (.iinc 3 1, 3) := by decide +kernel
theorem dX8_begin_69 : decode cX8_begin 69 = .ok (.goto (-26), 3) := by decide +kernel
theorem dX8_begin_72 : decode cX8_begin 72 = .ok (.aload_n 0, 1) := by decide +kernel
theorem dX8_begin_73 : decode cX8_begin 73 = .ok (.getfield 11, 3) := by decide +kernel
theorem dX8_begin_76 : decode cX8_begin 76 = .ok (.aload_n 0, 1) := by decide +kernel
theorem dX8_begin_77 : decode cX8_begin 77 = .ok (.invokevirtual 63, 3) := by decide +kernel
theorem dX8_begin_80 : decode cX8_begin 80 = .ok (.lconst 1, 1) := by decide +kernel
theorem dX8_begin_81 : decode cX8_begin 81 = .ok (.lastore, 1) := by decide +kernel
theorem dX8_begin_82 : decode cX8_begin 82 = .ok (.iconst 0, 1) := by decide +kernel
theorem dX8_begin_83 : decode cX8_begin 83 = .ok (.istore_n 3, 1) := by decide +kernel
theorem dX8_begin_84 : decode cX8_begin 84 = .ok (.iload_n 3, 1) := by decide +kernel
theorem dX8_begin_85 : decode cX8_begin 85 = .ok (.aload_n 1, 1) := by decide +kernel
theorem dX8_begin_86 : decode cX8_begin 86 = .ok (.getfield 60, 3) := by decide +kernel
theorem dX8_begin_89 : decode cX8_begin 89 = .ok (.if_icmp .ge 29, 3) := by decide +kernel
theorem dX8_begin_92 : decode cX8_begin 92 = .ok (.aload_n 0, 1) := by decide +kernel
theorem dX8_begin_93 : decode cX8_begin 93 = .ok (.getfield 11, 3) := by decide +kernel
theorem dX8_begin_96 : decode cX8_begin 96 = .ok (.aload_n 0, 1) := by decide +kernel
theorem dX8_begin_97 : decode cX8_begin 97 = .ok (.iload_n 3, 1) := by decide +kernel
theorem dX8_begin_98 : decode cX8_begin 98 = .ok (.invokevirtual 67, 3) := by decide +kernel
theorem dX8_begin_101 : decode cX8_begin 101 = .ok (.aload_n 1, 1) := by decide +kernel
theorem dX8_begin_102 : decode cX8_begin 102 = .ok (.iload_n 3, 1) := by decide +kernel
theorem dX8_begin_103 : decode cX8_begin 103 = .ok (.invokevirtual 71, 3) := by decide +kernel
theorem dX8_begin_106 : decode cX8_begin 106 = .ok (.i2l, 1) := by decide +kernel
theorem dX8_begin_107 : decode cX8_begin 107 = .ok (.lconst 1, 1) := by decide +kernel
theorem dX8_begin_108 : decode cX8_begin 108 = .ok (.invokestatic 72, 3) := by decide +kernel
theorem dX8_begin_111 : decode cX8_begin 111 = .ok (.lastore, 1) := by decide +kernel
theorem dX8_begin_112 : decode cX8_begin 112 = .ok (.iinc 3 1, 3) := by decide +kernel
theorem dX8_begin_115 : decode cX8_begin 115 = .ok (.goto (-31), 3) := by decide +kernel
theorem dX8_begin_118 : decode cX8_begin 118 = .ok (.return_, 1) := by decide +kernel
theorem dX2_holds_0 : decode cX2_holds 0 = .ok (.iload_n 1, 1) := by decide +kernel
theorem dX2_holds_1 : decode cX2_holds 1 = .ok (.ifCond .lt 15, 3) := by decide +kernel
theorem dX2_holds_4 : decode cX2_holds 4 = .ok (.iload_n 1, 1) := by decide +kernel
theorem dX2_holds_5 : decode cX2_holds 5 = .ok (.aload_n 0, 1) := by decide +kernel
theorem dX2_holds_6 : decode cX2_holds 6 = .ok (.getfield 25, 3) := by decide +kernel
theorem dX2_holds_9 : decode cX2_holds 9 = .ok (.if_icmp .ge 7, 3) := by decide +kernel
theorem dX2_holds_12 : decode cX2_holds 12 = .ok (.iconst 1, 1) := by decide +kernel
theorem dX2_holds_13 : decode cX2_holds 13 = .ok (.goto 4, 3) := by decide +kernel
theorem dX2_holds_16 : decode cX2_holds 16 = .ok (.iconst 0, 1) := by decide +kernel
theorem dX2_holds_17 : decode cX2_holds 17 = .ok (.ireturn, 1) := by decide +kernel
theorem dX2_begin_0 : decode cX2_begin 0 = .ok (.aload_n 0, 1) := by decide +kernel
theorem dX2_begin_1 : decode cX2_begin 1 = .ok (.iload_n 1, 1) := by decide +kernel
theorem dX2_begin_2 : decode cX2_begin 2 = .ok (.putfield 25, 3) := by decide +kernel
theorem dX2_begin_5 : decode cX2_begin 5 = .ok (.aload_n 0, 1) := by decide +kernel
theorem dX2_begin_6 : decode cX2_begin 6 = .ok (.iconst 0, 1) := by decide +kernel
theorem dX2_begin_7 : decode cX2_begin 7 = .ok (.putfield 29, 3) := by decide +kernel
theorem dX2_begin_10 : decode cX2_begin 10 = .ok (.aload_n 0, 1) := by decide +kernel
theorem dX2_begin_11 : decode cX2_begin 11 = .ok (.iconst 0, 1) := by decide +kernel
theorem dX2_begin_12 : decode cX2_begin 12 = .ok (.putfield 32, 3) := by decide +kernel
theorem dX2_begin_15 : decode cX2_begin 15 = .ok (.iconst 0, 1) := by decide +kernel
theorem dX2_begin_16 : decode cX2_begin 16 = .ok (.istore_n 2, 1) := by decide +kernel
theorem dX2_begin_17 : decode cX2_begin 17 = .ok (.iload_n 2, 1) := by decide +kernel
theorem dX2_begin_18 : decode cX2_begin 18 = .ok (.aload_n 0, 1) := by decide +kernel
theorem dX2_begin_19 : decode cX2_begin 19 = .ok (.getfield 9, 3) := by decide +kernel
theorem dX2_begin_22 : decode cX2_begin 22 = .ok (.arraylength, 1) := by decide +kernel
theorem dX2_begin_23 : decode cX2_begin 23 = .ok (.if_icmp .ge 16, 3) := by decide +kernel
theorem dX2_begin_26 : decode cX2_begin 26 = .ok (.aload_n 0, 1) := by decide +kernel
theorem dX2_begin_27 : decode cX2_begin 27 = .ok (.getfield 9, 3) := by decide +kernel
theorem dX2_begin_30 : decode cX2_begin 30 = .ok (.iload_n 2, 1) := by decide +kernel
theorem dX2_begin_31 : decode cX2_begin 31 = .ok (.lconst 1, 1) := by decide +kernel
theorem dX2_begin_32 : decode cX2_begin 32 = .ok (.lastore, 1) := by decide +kernel
theorem dX2_begin_33 : decode cX2_begin 33 = .ok (.iinc 2 1, 3) := by decide +kernel
theorem dX2_begin_36 : decode cX2_begin 36 = .ok (.goto (-19), 3) := by decide +kernel
theorem dX2_begin_39 : decode cX2_begin 39 = .ok (.return_, 1) := by decide +kernel
theorem dX2_valueOf_0 : decode cX2_valueOf 0 = .ok (.aload_n 0, 1) := by decide +kernel
theorem dX2_valueOf_1 : decode cX2_valueOf 1 = .ok (.iload_n 1, 1) := by decide +kernel
theorem dX2_valueOf_2 : decode cX2_valueOf 2 = .ok (.invokevirtual 37, 3) := by decide +kernel
theorem dX2_valueOf_5 : decode cX2_valueOf 5 = .ok (.ifCond .eq 12, 3) := by decide +kernel
theorem dX2_valueOf_8 : decode cX2_valueOf 8 = .ok (.aload_n 0, 1) := by decide +kernel
theorem dX2_valueOf_9 : decode cX2_valueOf 9 = .ok (.getfield 9, 3) := by decide +kernel
theorem dX2_valueOf_12 : decode cX2_valueOf 12 = .ok (.iload_n 1, 1) := by decide +kernel
theorem dX2_valueOf_13 : decode cX2_valueOf 13 = .ok (.laload, 1) := by decide +kernel
theorem dX2_valueOf_14 : decode cX2_valueOf 14 = .ok (.goto 4, 3) := by decide +kernel
theorem dX2_valueOf_17 : decode cX2_valueOf 17 = .ok (.lconst 0, 1) := by decide +kernel
theorem dX2_valueOf_18 : decode cX2_valueOf 18 = .ok (.lreturn, 1) := by decide +kernel
theorem dX2_dropOldest_0 : decode cX2_dropOldest 0 = .ok (.aload_n 0, 1) := by decide +kernel
theorem dX2_dropOldest_1 : decode cX2_dropOldest 1 = .ok (.bipush 39, 2) := by decide +kernel
theorem dX2_dropOldest_3 : decode cX2_dropOldest 3 = .ok (.putfield 29, 3) := by decide +kernel
theorem dX2_dropOldest_6 : decode cX2_dropOldest 6 = .ok (.aload_n 0, 1) := by decide +kernel
theorem dX2_dropOldest_7 : decode cX2_dropOldest 7 = .ok (.getfield 15, 3) := by decide +kernel
theorem dX2_dropOldest_10 : decode cX2_dropOldest 10 = .ok (.iconst 1, 1) := by decide +kernel
theorem dX2_dropOldest_11 : decode cX2_dropOldest 11 = .ok (.aload_n 0, 1) := by decide +kernel
theorem dX2_dropOldest_12 : decode cX2_dropOldest 12 = .ok (.getfield 15, 3) := by decide +kernel
theorem dX2_dropOldest_15 : decode cX2_dropOldest 15 = .ok (.iconst 0, 1) := by decide +kernel
theorem dX2_dropOldest_16 : decode cX2_dropOldest 16 = .ok (.aload_n 0, 1) := by decide +kernel
theorem dX2_dropOldest_17 : decode cX2_dropOldest 17 = .ok (.getfield 29, 3) := by decide +kernel
theorem dX2_dropOldest_20 : decode cX2_dropOldest 20 = .ok (.invokestatic 44, 3) := by decide +kernel
theorem dX2_dropOldest_23 : decode cX2_dropOldest 23 = .ok (.aload_n 0, 1) := by decide +kernel
theorem dX2_dropOldest_24 : decode cX2_dropOldest 24 = .ok (.getfield 19, 3) := by decide +kernel
theorem dX2_dropOldest_27 : decode cX2_dropOldest 27 = .ok (.iconst 1, 1) := by decide +kernel
theorem dX2_dropOldest_28 : decode cX2_dropOldest 28 = .ok (.aload_n 0, 1) := by decide +kernel
theorem dX2_dropOldest_29 : decode cX2_dropOldest 29 = .ok (.getfield 19, 3) := by decide +kernel
theorem dX2_dropOldest_32 : decode cX2_dropOldest 32 = .ok (.iconst 0, 1) := by decide +kernel
theorem dX2_dropOldest_33 : decode cX2_dropOldest 33 = .ok (.aload_n 0, 1) := by decide +kernel
theorem dX2_dropOldest_34 : decode cX2_dropOldest 34 = .ok (.getfield 29, 3) := by decide +kernel
theorem dX2_dropOldest_37 : decode cX2_dropOldest 37 = .ok (.invokestatic 44, 3) := by decide +kernel
theorem dX2_dropOldest_40 : decode cX2_dropOldest 40 = .ok (.aload_n 0, 1) := by decide +kernel
theorem dX2_dropOldest_41 : decode cX2_dropOldest 41 = .ok (.getfield 22, 3) := by decide +kernel
theorem dX2_dropOldest_44 : decode cX2_dropOldest 44 = .ok (.iconst 1, 1) := by decide +kernel
theorem dX2_dropOldest_45 : decode cX2_dropOldest 45 = .ok (.aload_n 0, 1) := by decide +kernel
theorem dX2_dropOldest_46 : decode cX2_dropOldest 46 = .ok (.getfield 22, 3) := by decide +kernel
theorem dX2_dropOldest_49 : decode cX2_dropOldest 49 = .ok (.iconst 0, 1) := by decide +kernel
theorem dX2_dropOldest_50 : decode cX2_dropOldest 50 = .ok (.aload_n 0, 1) := by decide +kernel
theorem dX2_dropOldest_51 : decode cX2_dropOldest 51 = .ok (.getfield 29, 3) := by decide +kernel
theorem dX2_dropOldest_54 : decode cX2_dropOldest 54 = .ok (.invokestatic 44, 3) := by decide +kernel
theorem dX2_dropOldest_57 : decode cX2_dropOldest 57 = .ok (.return_, 1) := by decide +kernel
theorem dX2_change_0 : decode cX2_change 0 = .ok (.aload_n 0, 1) := by decide +kernel
theorem dX2_change_1 : decode cX2_change 1 = .ok (.iload_n 1, 1) := by decide +kernel
theorem dX2_change_2 : decode cX2_change 2 = .ok (.invokevirtual 37, 3) := by decide +kernel
theorem dX2_change_5 : decode cX2_change 5 = .ok (.ifCond .ne 4, 3) := by decide +kernel
theorem dX2_change_8 : decode cX2_change 8 = .ok (.return_, 1) := by decide +kernel
theorem dX2_change_9 : decode cX2_change 9 = .ok (.aload_n 0, 1) := by decide +kernel
theorem dX2_change_10 : decode cX2_change 10 = .ok (.getfield 29, 3) := by decide +kernel
theorem dX2_change_13 : decode cX2_change 13 = .ok (.bipush 40, 2) := by decide +kernel
theorem dX2_change_15 : decode cX2_change 15 = .ok (.if_icmp .lt 7, 3) := by decide +kernel
theorem dX2_change_18 : decode cX2_change 18 = .ok (.aload_n 0, 1) := by decide +kernel
theorem dX2_change_19 : decode cX2_change 19 = .ok (.invokevirtual 41, 3) := by decide +kernel
theorem dX2_change_22 : decode cX2_change 22 = .ok (.aload_n 0, 1) := by decide +kernel
theorem dX2_change_23 : decode cX2_change 23 = .ok (.getfield 15, 3) := by decide +kernel
theorem dX2_change_26 : decode cX2_change 26 = .ok (.aload_n 0, 1) := by decide +kernel
theorem dX2_change_27 : decode cX2_change 27 = .ok (.getfield 29, 3) := by decide +kernel
theorem dX2_change_30 : decode cX2_change 30 = .ok (.iload_n 1, 1) := by decide +kernel
theorem dX2_change_31 : decode cX2_change 31 = .ok (.iastore, 1) := by decide +kernel
theorem dX2_change_32 : decode cX2_change 32 = .ok (.aload_n 0, 1) := by decide +kernel
theorem dX2_change_33 : decode cX2_change 33 = .ok (.getfield 19, 3) := by decide +kernel
theorem dX2_change_36 : decode cX2_change 36 = .ok (.aload_n 0, 1) := by decide +kernel
theorem dX2_change_37 : decode cX2_change 37 = .ok (.getfield 29, 3) := by decide +kernel
theorem dX2_change_40 : decode cX2_change 40 = .ok (.aload_n 0, 1) := by decide +kernel
theorem dX2_change_41 : decode cX2_change 41 = .ok (.getfield 9, 3) := by decide +kernel
theorem dX2_change_44 : decode cX2_change 44 = .ok (.iload_n 1, 1) := by decide +kernel
theorem dX2_change_45 : decode cX2_change 45 = .ok (.laload, 1) := by decide +kernel
theorem dX2_change_46 : decode cX2_change 46 = .ok (.lastore, 1) := by decide +kernel
theorem dX2_change_47 : decode cX2_change 47 = .ok (.aload_n 0, 1) := by decide +kernel
theorem dX2_change_48 : decode cX2_change 48 = .ok (.getfield 22, 3) := by decide +kernel
theorem dX2_change_51 : decode cX2_change 51 = .ok (.aload_n 0, 1) := by decide +kernel
theorem dX2_change_52 : decode cX2_change 52 = .ok (.getfield 29, 3) := by decide +kernel
theorem dX2_change_55 : decode cX2_change 55 = .ok (.lload_n 2, 1) := by decide +kernel
theorem dX2_change_56 : decode cX2_change 56 = .ok (.lastore, 1) := by decide +kernel
theorem dX2_change_57 : decode cX2_change 57 = .ok (.aload_n 0, 1) := by decide +kernel
theorem dX2_change_58 : decode cX2_change 58 = .ok (.getfield 9, 3) := by decide +kernel
theorem dX2_change_61 : decode cX2_change 61 = .ok (.iload_n 1, 1) := by decide +kernel
theorem dX2_change_62 : decode cX2_change 62 = .ok (.lload_n 2, 1) := by decide +kernel
theorem dX2_change_63 : decode cX2_change 63 = .ok (.lastore, 1) := by decide +kernel
theorem dX2_change_64 : decode cX2_change 64 = .ok (.aload_n 0, 1) := by decide +kernel
theorem dX2_change_65 : decode cX2_change 65 = .ok (.dup, 1) := by decide +kernel
theorem dX2_change_66 : decode cX2_change 66 = .ok (.getfield 29, 3) := by decide +kernel
theorem dX2_change_69 : decode cX2_change 69 = .ok (.iconst 1, 1) := by decide +kernel
theorem dX2_change_70 : decode cX2_change 70 = .ok (.iadd, 1) := by decide +kernel
theorem dX2_change_71 : decode cX2_change 71 = .ok (.putfield 29, 3) := by decide +kernel
theorem dX2_change_74 : decode cX2_change 74 = .ok (.aload_n 0, 1) := by decide +kernel
theorem dX2_change_75 : decode cX2_change 75 = .ok (.aload_n 0, 1) := by decide +kernel
theorem dX2_change_76 : decode cX2_change 76 = .ok (.getfield 29, 3) := by decide +kernel
theorem dX2_change_79 : decode cX2_change 79 = .ok (.putfield 32, 3) := by decide +kernel
theorem dX2_change_82 : decode cX2_change 82 = .ok (.return_, 1) := by decide +kernel
theorem dX2_stepBack_0 : decode cX2_stepBack 0 = .ok (.aload_n 0, 1) := by decide +kernel
theorem dX2_stepBack_1 : decode cX2_stepBack 1 = .ok (.getfield 29, 3) := by decide +kernel
theorem dX2_stepBack_4 : decode cX2_stepBack 4 = .ok (.ifCond .gt 5, 3) := by decide +kernel
theorem dX2_stepBack_7 : decode cX2_stepBack 7 = .ok (.iconst 0, 1) := by decide +kernel
theorem dX2_stepBack_8 : decode cX2_stepBack 8 = .ok (.ireturn, 1) := by decide +kernel
theorem dX2_stepBack_9 : decode cX2_stepBack 9 = .ok (.aload_n 0, 1) := by decide +kernel
theorem dX2_stepBack_10 : decode cX2_stepBack 10 = .ok (.dup, 1) := by decide +kernel
theorem dX2_stepBack_11 : decode cX2_stepBack 11 = .ok (.getfield 29, 3) := by decide +kernel
theorem dX2_stepBack_14 : decode cX2_stepBack 14 = .ok (.iconst 1, 1) := by decide +kernel
theorem dX2_stepBack_15 : decode cX2_stepBack 15 = .ok (.isub, 1) := by decide +kernel
theorem dX2_stepBack_16 : decode cX2_stepBack 16 = .ok (.putfield 29, 3) := by decide +kernel
theorem dX2_stepBack_19 : decode cX2_stepBack 19 = .ok (.aload_n 0, 1) := by decide +kernel
theorem dX2_stepBack_20 : decode cX2_stepBack 20 = .ok (.getfield 9, 3) := by decide +kernel
theorem dX2_stepBack_23 : decode cX2_stepBack 23 = .ok (.aload_n 0, 1) := by decide +kernel
theorem dX2_stepBack_24 : decode cX2_stepBack 24 = .ok (.getfield 15, 3) := by decide +kernel
theorem dX2_stepBack_27 : decode cX2_stepBack 27 = .ok (.aload_n 0, 1) := by decide +kernel
theorem dX2_stepBack_28 : decode cX2_stepBack 28 = .ok (.getfield 29, 3) := by decide +kernel
theorem dX2_stepBack_31 : decode cX2_stepBack 31 = .ok (.iaload, 1) := by decide +kernel
theorem dX2_stepBack_32 : decode cX2_stepBack 32 = .ok (.aload_n 0, 1) := by decide +kernel
theorem dX2_stepBack_33 : decode cX2_stepBack 33 = .ok (.getfield 19, 3) := by decide +kernel
theorem dX2_stepBack_36 : decode cX2_stepBack 36 = .ok (.aload_n 0, 1) := by decide +kernel
theorem dX2_stepBack_37 : decode cX2_stepBack 37 = .ok (.getfield 29, 3) := by decide +kernel
theorem dX2_stepBack_40 : decode cX2_stepBack 40 = .ok (.laload, 1) := by decide +kernel
theorem dX2_stepBack_41 : decode cX2_stepBack 41 = .ok (.lastore, 1) := by decide +kernel
theorem dX2_stepBack_42 : decode cX2_stepBack 42 = .ok (.iconst 1, 1) := by decide +kernel
theorem dX2_stepBack_43 : decode cX2_stepBack 43 = .ok (.ireturn, 1) := by decide +kernel
theorem dX2_stepOn_0 : decode cX2_stepOn 0 = .ok (.aload_n 0, 1) := by decide +kernel
theorem dX2_stepOn_1 : decode cX2_stepOn 1 = .ok (.getfield 29, 3) := by decide +kernel
theorem dX2_stepOn_4 : decode cX2_stepOn 4 = .ok (.aload_n 0, 1) := by decide +kernel
theorem dX2_stepOn_5 : decode cX2_stepOn 5 = .ok (.getfield 32, 3) := by decide +kernel
theorem dX2_stepOn_8 : decode cX2_stepOn 8 = .ok (.if_icmp .lt 5, 3) := by decide +kernel
theorem dX2_stepOn_11 : decode cX2_stepOn 11 = .ok (.iconst 0, 1) := by decide +kernel
theorem dX2_stepOn_12 : decode cX2_stepOn 12 = .ok (.ireturn, 1) := by decide +kernel
theorem dX2_stepOn_13 : decode cX2_stepOn 13 = .ok (.aload_n 0, 1) := by decide +kernel
theorem dX2_stepOn_14 : decode cX2_stepOn 14 = .ok (.getfield 9, 3) := by decide +kernel
theorem dX2_stepOn_17 : decode cX2_stepOn 17 = .ok (.aload_n 0, 1) := by decide +kernel
theorem dX2_stepOn_18 : decode cX2_stepOn 18 = .ok (.getfield 15, 3) := by decide +kernel
theorem dX2_stepOn_21 : decode cX2_stepOn 21 = .ok (.aload_n 0, 1) := by decide +kernel
theorem dX2_stepOn_22 : decode cX2_stepOn 22 = .ok (.getfield 29, 3) := by decide +kernel
theorem dX2_stepOn_25 : decode cX2_stepOn 25 = .ok (.iaload, 1) := by decide +kernel
theorem dX2_stepOn_26 : decode cX2_stepOn 26 = .ok (.aload_n 0, 1) := by decide +kernel
theorem dX2_stepOn_27 : decode cX2_stepOn 27 = .ok (.getfield 22, 3) := by decide +kernel
theorem dX2_stepOn_30 : decode cX2_stepOn 30 = .ok (.aload_n 0, 1) := by decide +kernel
theorem dX2_stepOn_31 : decode cX2_stepOn 31 = .ok (.getfield 29, 3) := by decide +kernel
theorem dX2_stepOn_34 : decode cX2_stepOn 34 = .ok (.laload, 1) := by decide +kernel
theorem dX2_stepOn_35 : decode cX2_stepOn 35 = .ok (.lastore, 1) := by decide +kernel
theorem dX2_stepOn_36 : decode cX2_stepOn 36 = .ok (.aload_n 0, 1) := by decide +kernel
theorem dX2_stepOn_37 : decode cX2_stepOn 37 = .ok (.dup, 1) := by decide +kernel
theorem dX2_stepOn_38 : decode cX2_stepOn 38 = .ok (.getfield 29, 3) := by decide +kernel
theorem dX2_stepOn_41 : decode cX2_stepOn 41 = .ok (.iconst 1, 1) := by decide +kernel
theorem dX2_stepOn_42 : decode cX2_stepOn 42 = .ok (.iadd, 1) := by decide +kernel
theorem dX2_stepOn_43 : decode cX2_stepOn 43 = .ok (.putfield 29, 3) := by decide +kernel
theorem dX2_stepOn_46 : decode cX2_stepOn 46 = .ok (.iconst 1, 1) := by decide +kernel
theorem dX2_stepOn_47 : decode cX2_stepOn 47 = .ok (.ireturn, 1) := by decide +kernel
theorem dX1_forget_0 : decode cX1_forget 0 = .ok (.aload_n 0, 1) := by decide +kernel
theorem dX1_forget_1 : decode cX1_forget 1 = .ok (.iconst 0, 1) := by decide +kernel
theorem dX1_forget_2 : decode cX1_forget 2 = .ok (.putfield 20, 3) := by decide +kernel
theorem dX1_forget_5 : decode cX1_forget 5 = .ok (.return_, 1) := by decide +kernel
theorem dX1_begin_0 : decode cX1_begin 0 = .ok (.aload_n 0, 1) := by decide +kernel
theorem dX1_begin_1 : decode cX1_begin 1 = .ok (.iload_n 1, 1) := by decide +kernel
theorem dX1_begin_2 : decode cX1_begin 2 = .ok (.ifCond .lt 13, 3) := by decide +kernel
theorem dX1_begin_5 : decode cX1_begin 5 = .ok (.iload_n 1, 1) := by decide +kernel
theorem dX1_begin_6 : decode cX1_begin 6 = .ok (.bipush 8, 2) := by decide +kernel
theorem dX1_begin_8 : decode cX1_begin 8 = .ok (.if_icmp .gt 7, 3) := by decide +kernel
theorem dX1_begin_11 : decode cX1_begin 11 = .ok (.iload_n 1, 1) := by decide +kernel
theorem dX1_begin_12 : decode cX1_begin 12 = .ok (.goto 4, 3) := by decide +kernel
theorem dX1_begin_15 : decode cX1_begin 15 = .ok (.iconst 0, 1) := by decide +kernel
theorem dX1_begin_16 : decode cX1_begin 16 = .ok (.putfield 20, 3) := by decide +kernel
theorem dX1_begin_19 : decode cX1_begin 19 = .ok (.iconst 0, 1) := by decide +kernel
theorem dX1_begin_20 : decode cX1_begin 20 = .ok (.istore_n 2, 1) := by decide +kernel
theorem dX1_begin_21 : decode cX1_begin 21 = .ok (.iload_n 2, 1) := by decide +kernel
theorem dX1_begin_22 : decode cX1_begin 22 = .ok (.aload_n 0, 1) := by decide +kernel
theorem dX1_begin_23 : decode cX1_begin 23 = .ok (.getfield 17, 3) := by decide +kernel
theorem dX1_begin_26 : decode cX1_begin 26 = .ok (.arraylength, 1) := by decide +kernel
theorem dX1_begin_27 : decode cX1_begin 27 = .ok (.if_icmp .ge 16, 3) := by decide +kernel
theorem dX1_begin_30 : decode cX1_begin 30 = .ok (.aload_n 0, 1) := by decide +kernel
theorem dX1_begin_31 : decode cX1_begin 31 = .ok (.getfield 17, 3) := by decide +kernel
theorem dX1_begin_34 : decode cX1_begin 34 = .ok (.iload_n 2, 1) := by decide +kernel
theorem dX1_begin_35 : decode cX1_begin 35 = .ok (.iconst 0, 1) := by decide +kernel
theorem dX1_begin_36 : decode cX1_begin 36 = .ok (.iastore, 1) := by decide +kernel
theorem dX1_begin_37 : decode cX1_begin 37 = .ok (.iinc 2 1, 3) := by decide +kernel
theorem dX1_begin_40 : decode cX1_begin 40 = .ok (.goto (-19), 3) := by decide +kernel
theorem dX1_begin_43 : decode cX1_begin 43 = .ok (.return_, 1) := by decide +kernel
theorem dX1_keepApart_0 : decode cX1_keepApart 0 = .ok (.iconst 0, 1) := by decide +kernel
theorem dX1_keepApart_1 : decode cX1_keepApart 1 = .ok (.istore_n 2, 1) := by decide +kernel
theorem dX1_keepApart_2 : decode cX1_keepApart 2 = .ok (.iload_n 2, 1) := by decide +kernel
theorem dX1_keepApart_3 : decode cX1_keepApart 3 = .ok (.aload_n 0, 1) := by decide +kernel
theorem dX1_keepApart_4 : decode cX1_keepApart 4 = .ok (.getfield 20, 3) := by decide +kernel
theorem dX1_keepApart_7 : decode cX1_keepApart 7 = .ok (.if_icmp .ge 27, 3) := by decide +kernel
theorem dX1_keepApart_10 : decode cX1_keepApart 10 = .ok (.iload_n 1, 1) := by decide +kernel
theorem dX1_keepApart_11 : decode cX1_keepApart 11 = .ok (.iload_n 2, 1) := by decide +kernel
theorem dX1_keepApart_12 : decode cX1_keepApart 12 = .ok (.ishr, 1) := by decide +kernel
theorem dX1_keepApart_13 : decode cX1_keepApart 13 = .ok (.iconst 1, 1) := by decide +kernel
theorem dX1_keepApart_14 : decode cX1_keepApart 14 = .ok (.iand, 1) := by decide +kernel
theorem dX1_keepApart_15 : decode cX1_keepApart 15 = .ok (.ifCond .eq 13, 3) := by decide +kernel
theorem dX1_keepApart_18 : decode cX1_keepApart 18 = .ok (.aload_n 0, 1) := by decide +kernel
theorem dX1_keepApart_19 : decode cX1_keepApart 19 = .ok (.getfield 17, 3) := by decide +kernel
theorem dX1_keepApart_22 : decode cX1_keepApart 22 = .ok (.iload_n 2, 1) := by decide +kernel
theorem dX1_keepApart_23 : decode cX1_keepApart 23 = .ok (.dup2, 1) := by decide +kernel
theorem dX1_keepApart_24 : decode cX1_keepApart 24 = .ok (.iaload, 1) := by decide +kernel
theorem dX1_keepApart_25 : decode cX1_keepApart 25 = .ok (.iload_n 1, 1) := by decide +kernel
theorem dX1_keepApart_26 : decode cX1_keepApart 26 = .ok (.ior, 1) := by decide +kernel
theorem dX1_keepApart_27 : decode cX1_keepApart 27 = .ok (.iastore, 1) := by decide +kernel
theorem dX1_keepApart_28 : decode cX1_keepApart 28 = .ok (.iinc 2 1, 3) := by decide +kernel
theorem dX1_keepApart_31 : decode cX1_keepApart 31 = .ok (.goto (-29), 3) := by decide +kernel
theorem dX1_keepApart_34 : decode cX1_keepApart 34 = .ok (.return_, 1) := by decide +kernel
theorem dX1_groupOf_0 : decode cX1_groupOf 0 = .ok (.iload_n 1, 1) := by decide +kernel
theorem dX1_groupOf_1 : decode cX1_groupOf 1 = .ok (.ifCond .lt 20, 3) := by decide +kernel
theorem dX1_groupOf_4 : decode cX1_groupOf 4 = .ok (.iload_n 1, 1) := by decide +kernel
theorem dX1_groupOf_5 : decode cX1_groupOf 5 = .ok (.aload_n 0, 1) := by decide +kernel
theorem dX1_groupOf_6 : decode cX1_groupOf 6 = .ok (.getfield 20, 3) := by decide +kernel
theorem dX1_groupOf_9 : decode cX1_groupOf 9 = .ok (.if_icmp .ge 12, 3) := by decide +kernel
theorem dX1_groupOf_12 : decode cX1_groupOf 12 = .ok (.aload_n 0, 1) := by decide +kernel
theorem dX1_groupOf_13 : decode cX1_groupOf 13 = .ok (.getfield 11, 3) := by decide +kernel
theorem dX1_groupOf_16 : decode cX1_groupOf 16 = .ok (.iload_n 1, 1) := by decide +kernel
theorem dX1_groupOf_17 : decode cX1_groupOf 17 = .ok (.iaload, 1) := by decide +kernel
theorem dX1_groupOf_18 : decode cX1_groupOf 18 = .ok (.goto 4, 3) := by decide +kernel
theorem dX1_groupOf_21 : decode cX1_groupOf 21 = .ok (.iconst (-1), 1) := by decide +kernel
theorem dX1_groupOf_22 : decode cX1_groupOf 22 = .ok (.ireturn, 1) := by decide +kernel
theorem dX1_isFree_0 : decode cX1_isFree 0 = .ok (.iconst 0, 1) := by decide +kernel
theorem dX1_isFree_1 : decode cX1_isFree 1 = .ok (.istore_n 3, 1) := by decide +kernel
theorem dX1_isFree_2 : decode cX1_isFree 2 = .ok (.iload_n 3, 1) := by decide +kernel
theorem dX1_isFree_3 : decode cX1_isFree 3 = .ok (.iload_n 1, 1) := by decide +kernel
theorem dX1_isFree_4 : decode cX1_isFree 4 = .ok (.if_icmp .ge 34, 3) := by decide +kernel
theorem dX1_isFree_7 : decode cX1_isFree 7 = .ok (.aload_n 0, 1) := by decide +kernel
theorem dX1_isFree_8 : decode cX1_isFree 8 = .ok (.getfield 11, 3) := by decide +kernel
theorem dX1_isFree_11 : decode cX1_isFree 11 = .ok (.iload_n 3, 1) := by decide +kernel
theorem dX1_isFree_12 : decode cX1_isFree 12 = .ok (.iaload, 1) := by decide +kernel
theorem dX1_isFree_13 : decode cX1_isFree 13 = .ok (.iload_n 2, 1) := by decide +kernel
theorem dX1_isFree_14 : decode cX1_isFree 14 = .ok (.if_icmp .ne 18, 3) := by decide +kernel
theorem dX1_isFree_17 : decode cX1_isFree 17 = .ok (.aload_n 0, 1) := by decide +kernel
theorem dX1_isFree_18 : decode cX1_isFree 18 = .ok (.getfield 17, 3) := by decide +kernel
theorem dX1_isFree_21 : decode cX1_isFree 21 = .ok (.iload_n 1, 1) := by decide +kernel
theorem dX1_isFree_22 : decode cX1_isFree 22 = .ok (.iaload, 1) := by decide +kernel
theorem dX1_isFree_23 : decode cX1_isFree 23 = .ok (.iload_n 3, 1) := by decide +kernel
theorem dX1_isFree_24 : decode cX1_isFree 24 = .ok (.ishr, 1) := by decide +kernel
theorem dX1_isFree_25 : decode cX1_isFree 25 = .ok (.iconst 1, 1) := by decide +kernel
theorem dX1_isFree_26 : decode cX1_isFree 26 = .ok (.iand, 1) := by decide +kernel
theorem dX1_isFree_27 : decode cX1_isFree 27 = .ok (.ifCond .eq 5, 3) := by decide +kernel
theorem dX1_isFree_30 : decode cX1_isFree 30 = .ok (.iconst 0, 1) := by decide +kernel
theorem dX1_isFree_31 : decode cX1_isFree 31 = .ok (.ireturn, 1) := by decide +kernel
theorem dX1_isFree_32 : decode cX1_isFree 32 = .ok (.iinc 3 1, 3) := by decide +kernel
theorem dX1_isFree_35 : decode cX1_isFree 35 = .ok (.goto (-33), 3) := by decide +kernel
theorem dX1_isFree_38 : decode cX1_isFree 38 = .ok (.iconst 1, 1) := by decide +kernel
theorem dX1_isFree_39 : decode cX1_isFree 39 = .ok (.ireturn, 1) := by decide +kernel
theorem dX1_fits_0 : decode cX1_fits 0 = .ok (.iload_n 1, 1) := by decide +kernel
theorem dX1_fits_1 : decode cX1_fits 1 = .ok (.aload_n 0, 1) := by decide +kernel
theorem dX1_fits_2 : decode cX1_fits 2 = .ok (.getfield 20, 3) := by decide +kernel
theorem dX1_fits_5 : decode cX1_fits 5 = .ok (.if_icmp .lt 5, 3) := by decide +kernel
theorem dX1_fits_8 : decode cX1_fits 8 = .ok (.iconst 1, 1) := by decide +kernel
theorem dX1_fits_9 : decode cX1_fits 9 = .ok (.ireturn, 1) := by decide +kernel
theorem dX1_fits_10 : decode cX1_fits 10 = .ok (.iconst 0, 1) := by decide +kernel
theorem dX1_fits_11 : decode cX1_fits 11 = .ok (.istore 4, 2) := by decide +kernel
theorem dX1_fits_13 : decode cX1_fits 13 = .ok (.iload 4, 2) := by decide +kernel
theorem dX1_fits_15 : decode cX1_fits 15 = .ok (.iload_n 2, 1) := by decide +kernel
theorem dX1_fits_16 : decode cX1_fits 16 = .ok (.if_icmp .gt 62, 3) := by decide +kernel
theorem dX1_fits_19 : decode cX1_fits 19 = .ok (.iload 4, 2) := by decide +kernel
theorem dX1_fits_21 : decode cX1_fits 21 = .ok (.iload_n 3, 1) := by decide +kernel
theorem dX1_fits_22 : decode cX1_fits 22 = .ok (.if_icmp .ge 56, 3) := by decide +kernel
theorem dX1_fits_25 : decode cX1_fits 25 = .ok (.aload_n 0, 1) := by decide +kernel
theorem dX1_fits_26 : decode cX1_fits 26 = .ok (.iload_n 1, 1) := by decide +kernel
theorem dX1_fits_27 : decode cX1_fits 27 = .ok (.iload 4, 2) := by decide +kernel
theorem dX1_fits_29 : decode cX1_fits 29 = .ok (.invokevirtual 28, 3) := by decide +kernel
theorem dX1_fits_32 : decode cX1_fits 32 = .ok (.ifCond .ne 6, 3) := by decide +kernel
theorem dX1_fits_35 : decode cX1_fits 35 = .ok (.goto 37, 3) := by decide +kernel
theorem dX1_fits_38 : decode cX1_fits 38 = .ok (.aload_n 0, 1) := by decide +kernel
theorem dX1_fits_39 : decode cX1_fits 39 = .ok (.getfield 11, 3) := by decide +kernel
theorem dX1_fits_42 : decode cX1_fits 42 = .ok (.iload_n 1, 1) := by decide +kernel
theorem dX1_fits_43 : decode cX1_fits 43 = .ok (.iload 4, 2) := by decide +kernel
theorem dX1_fits_45 : decode cX1_fits 45 = .ok (.iastore, 1) := by decide +kernel
theorem dX1_fits_46 : decode cX1_fits 46 = .ok (.aload_n 0, 1) := by decide +kernel
theorem dX1_fits_47 : decode cX1_fits 47 = .ok (.iload_n 1, 1) := by decide +kernel
theorem dX1_fits_48 : decode cX1_fits 48 = .ok (.iconst 1, 1) := by decide +kernel
theorem dX1_fits_49 : decode cX1_fits 49 = .ok (.iadd, 1) := by decide +kernel
theorem dX1_fits_50 : decode cX1_fits 50 = .ok (.iload 4, 2) := by decide +kernel
theorem dX1_fits_52 : decode cX1_fits 52 = .ok (.iload_n 2, 1) := by decide +kernel
theorem dX1_fits_53 : decode cX1_fits 53 = .ok (.if_icmp .ne 9, 3) := by decide +kernel
theorem dX1_fits_56 : decode cX1_fits 56 = .ok (.iload_n 2, 1) := by decide +kernel
theorem dX1_fits_57 : decode cX1_fits 57 = .ok (.iconst 1, 1) := by decide +kernel
theorem dX1_fits_58 : decode cX1_fits 58 = .ok (.iadd, 1) := by decide +kernel
theorem dX1_fits_59 : decode cX1_fits 59 = .ok (.goto 4, 3) := by decide +kernel
theorem dX1_fits_62 : decode cX1_fits 62 = .ok (.iload_n 2, 1) := by decide +kernel
theorem dX1_fits_63 : decode cX1_fits 63 = .ok (.iload_n 3, 1) := by decide +kernel
theorem dX1_fits_64 : decode cX1_fits 64 = .ok (.invokevirtual 24, 3) := by decide +kernel
theorem dX1_fits_67 : decode cX1_fits 67 = .ok (.ifCond .eq 5, 3) := by decide +kernel
theorem dX1_fits_70 : decode cX1_fits 70 = .ok (.iconst 1, 1) := by decide +kernel
theorem dX1_fits_71 : decode cX1_fits 71 = .ok (.ireturn, 1) := by decide +kernel
theorem dX1_fits_72 : decode cX1_fits 72 = .ok (.iinc 4 1, 3) := by decide +kernel
theorem dX1_fits_75 : decode cX1_fits 75 = .ok (.goto (-62), 3) := by decide +kernel
theorem dX1_fits_78 : decode cX1_fits 78 = .ok (.iconst 0, 1) := by decide +kernel
theorem dX1_fits_79 : decode cX1_fits 79 = .ok (.ireturn, 1) := by decide +kernel
theorem dX1_settle_0 : decode cX1_settle 0 = .ok (.iconst 0, 1) := by decide +kernel
theorem dX1_settle_1 : decode cX1_settle 1 = .ok (.istore_n 1, 1) := by decide +kernel
theorem dX1_settle_2 : decode cX1_settle 2 = .ok (.iload_n 1, 1) := by decide +kernel
theorem dX1_settle_3 : decode cX1_settle 3 = .ok (.aload_n 0, 1) := by decide +kernel
theorem dX1_settle_4 : decode cX1_settle 4 = .ok (.getfield 20, 3) := by decide +kernel
theorem dX1_settle_7 : decode cX1_settle 7 = .ok (.if_icmp .ge 21, 3) := by decide +kernel
theorem dX1_settle_10 : decode cX1_settle 10 = .ok (.aload_n 0, 1) := by decide +kernel
theorem dX1_settle_11 : decode cX1_settle 11 = .ok (.iconst 0, 1) := by decide +kernel
theorem dX1_settle_12 : decode cX1_settle 12 = .ok (.iconst 0, 1) := by decide +kernel
theorem dX1_settle_13 : decode cX1_settle 13 = .ok (.iload_n 1, 1) := by decide +kernel
theorem dX1_settle_14 : decode cX1_settle 14 = .ok (.invokevirtual 24, 3) := by decide +kernel
theorem dX1_settle_17 : decode cX1_settle 17 = .ok (.ifCond .eq 5, 3) := by decide +kernel
theorem dX1_settle_20 : decode cX1_settle 20 = .ok (.iload_n 1, 1) := by decide +kernel
theorem dX1_settle_21 : decode cX1_settle 21 = .ok (.ireturn, 1) := by decide +kernel
theorem dX1_settle_22 : decode cX1_settle 22 = .ok (.iinc 1 1, 3) := by decide +kernel
theorem dX1_settle_25 : decode cX1_settle 25 = .ok (.goto (-23), 3) := by decide +kernel
theorem dX1_settle_28 : decode cX1_settle 28 = .ok (.iconst 0, 1) := by decide +kernel
theorem dX1_settle_29 : decode cX1_settle 29 = .ok (.istore_n 1, 1) := by decide +kernel
theorem dX1_settle_30 : decode cX1_settle 30 = .ok (.iload_n 1, 1) := by decide +kernel
theorem dX1_settle_31 : decode cX1_settle 31 = .ok (.aload_n 0, 1) := by decide +kernel
theorem dX1_settle_32 : decode cX1_settle 32 = .ok (.getfield 20, 3) := by decide +kernel
theorem dX1_settle_35 : decode cX1_settle 35 = .ok (.if_icmp .ge 16, 3) := by decide +kernel
theorem dX1_settle_38 : decode cX1_settle 38 = .ok (.aload_n 0, 1) := by decide +kernel
theorem dX1_settle_39 : decode cX1_settle 39 = .ok (.getfield 11, 3) := by decide +kernel
theorem dX1_settle_42 : decode cX1_settle 42 = .ok (.iload_n 1, 1) := by decide +kernel
theorem dX1_settle_43 : decode cX1_settle 43 = .ok (.iload_n 1, 1) := by decide +kernel
theorem dX1_settle_44 : decode cX1_settle 44 = .ok (.iastore, 1) := by decide +kernel
theorem dX1_settle_45 : decode cX1_settle 45 = .ok (.iinc 1 1, 3) := by decide +kernel
theorem dX1_settle_48 : decode cX1_settle 48 = .ok (.goto (-18), 3) := by decide +kernel
theorem dX1_settle_51 : decode cX1_settle 51 = .ok (.aload_n 0, 1) := by decide +kernel
theorem dX1_settle_52 : decode cX1_settle 52 = .ok (.getfield 20, 3) := by decide +kernel
theorem dX1_settle_55 : decode cX1_settle 55 = .ok (.ireturn, 1) := by decide +kernel
def v_ka_begin : List Cond := .code yX8_begin cX8_begin 4 none :: ([.fieldLink RX8 28 "SlopeRunner$Tape" "state" "I", .fieldLink RX8 59 "SlopeRunner$Program" "inputs" "I", .fieldLink RX8 38 "SlopeRunner$Tape" "inputs" "I", .fieldLink RX8 60 "SlopeRunner$Program" "numbers" "I", .fieldLink RX8 41 "SlopeRunner$Tape" "firstStep" "I", .fieldLink RX8 44 "SlopeRunner$Tape" "size" "I", .fieldLink RX8 11 "SlopeRunner$Tape" "value" "[J"] ++ ((wsV RX8 56 RX8 yX8_forget v_ka_forget) ++ ((wsV RX8 63 RX8 yX8_zeroAt v_ka_zeroAt) ++ ((wsV RX8 67 RX8 yX8_numberAt v_ka_numberAt) ++ ((wsV RX8 71 RX6 yX6_numberAt v_p_numberAt) ++ ((va_wsS RX8 72 yX0_of v_k_of) ++ (wsX80 ++ wsX60)))))))
theorem g_ka_begin_0 : GoodIn v_ka_begin (wsV RX8 56 RX8 yX8_forget v_ka_forget) := goodIn_sub (fun w h => List.mem_cons_of_mem _ (List.mem_append_right _ (List.mem_append_left _ h))) (by decide +kernel)
theorem g_ka_begin_1 : GoodIn v_ka_begin (wsV RX8 63 RX8 yX8_zeroAt v_ka_zeroAt) := goodIn_sub (fun w h => List.mem_cons_of_mem _ (List.mem_append_right _ (List.mem_append_right _ (List.mem_append_left _ h)))) (by decide +kernel)
theorem g_ka_begin_2 : GoodIn v_ka_begin (wsV RX8 67 RX8 yX8_numberAt v_ka_numberAt) := goodIn_sub (fun w h => List.mem_cons_of_mem _ (List.mem_append_right _ (List.mem_append_right _ (List.mem_append_right _ (List.mem_append_left _ h))))) (by decide +kernel)
theorem g_ka_begin_3 : GoodIn v_ka_begin (wsV RX8 71 RX6 yX6_numberAt v_p_numberAt) := goodIn_sub (fun w h => List.mem_cons_of_mem _ (List.mem_append_right _ (List.mem_append_right _ (List.mem_append_right _ (List.mem_append_right _ (List.mem_append_left _ h)))))) (by decide +kernel)
theorem g_ka_begin_4 : GoodIn v_ka_begin (va_wsS RX8 72 yX0_of v_k_of) := goodIn_sub (fun w h => List.mem_cons_of_mem _ (List.mem_append_right _ (List.mem_append_right _ (List.mem_append_right _ (List.mem_append_right _ (List.mem_append_right _ (List.mem_append_left _ h))))))) (by decide +kernel)
set_option maxHeartbeats 4000000 in
set_option maxRecDepth 100000 in
theorem ka_begin (l : Launch) (D : va_G) (y : Nat → ClassId) (sz : Nat) (ad : Nat → Nat) (σ : OS) (hpi0 : 0 ≤ (σ.1 81).toInt) (hpi1 : (σ.1 81).toInt ≤ 8) (hpn0 : 0 ≤ (σ.1 85).toInt) (hpn1 : (σ.1 85).toInt ≤ 350) : Met l yX8_begin v_ka_begin ({ frames := 2, cells := 0, slots := 0, locals := 69 } : Room) (va_Pc [.ref (ad 130), .ref (ad 80), .ref (ad 101)] (xPre D (xT y) (tbw y ad σ) sz)) (va_Qv (fun (u : Int32 × Int32 × Int32 × Int32 × Int32 × Int32 × Int32 × Int64 × (Nat → Int64)) => u.2.1.toInt = (σ.1 81).toInt ∧ 0 ≤ u.2.2.1.toInt ∧ 0 ≤ u.2.2.2.1.toInt ∧ u.2.2.2.1.toInt ≤ 1359 ∧ u.2.2.2.2.2.1.toInt = 0) (fun (u : Int32 × Int32 × Int32 × Int32 × Int32 × Int32 × Int32 × Int64 × (Nat → Int64)) => xB D (xT y) (va_A (tbw y ad σ) sz) (tbw y ad (tJ (sJ (sI (sI (sI (sI (sI (sI (sI σ 136 u.1) 137 u.2.1) 138 u.2.2.1) 139 u.2.2.2.1) 140 u.2.2.2.2.1) 141 u.2.2.2.2.2.1) 142 u.2.2.2.2.2.2.1) 143 u.2.2.2.2.2.2.2.1) 131 u.2.2.2.2.2.2.2.2))) (va_A (tbw y ad σ) sz)) 0 0 (va_A (tbw y ad σ) sz) := by
  refine x_metv (cc := cX8_begin) (maxL := 4) (by decide) rfl (Nat.le_of_ble_eq_true rfl) ?_
  intro p e s m below meth c A H locs Q hx hb hml hown hts hr hlocks hmn hA hP hK hD hS ls hl hQ
  have hl : lv_has ls 4 [(0, .ref (ad 130)), (1, .ref (ad 80)), (2, .ref (ad 101))] := hl
  have fl28 := hts (.fieldLink RX8 28 "SlopeRunner$Tape" "state" "I") (List.mem_of_getElem? (i := 1) rfl)
  have inX8 : ∀ w ∈ wsX80, w ∈ v_ka_begin := (fun w h => List.mem_cons_of_mem _ (List.mem_append_right _ (List.mem_append_right _ (List.mem_append_right _ (List.mem_append_right _ (List.mem_append_right _ (List.mem_append_right _ (List.mem_append_left _ h))))))))
  have fl59 := hts (.fieldLink RX8 59 "SlopeRunner$Program" "inputs" "I") (List.mem_of_getElem? (i := 2) rfl)
  have inX6 : ∀ w ∈ wsX60, w ∈ v_ka_begin := (fun w h => List.mem_cons_of_mem _ (List.mem_append_right _ (List.mem_append_right _ (List.mem_append_right _ (List.mem_append_right _ (List.mem_append_right _ (List.mem_append_right _ (List.mem_append_right _ h))))))))
  have fl38 := hts (.fieldLink RX8 38 "SlopeRunner$Tape" "inputs" "I") (List.mem_of_getElem? (i := 3) rfl)
  have kk_1 : (1 : Int32).toInt = 1 := rfl
  have fl60 := hts (.fieldLink RX8 60 "SlopeRunner$Program" "numbers" "I") (List.mem_of_getElem? (i := 4) rfl)
  have fl41 := hts (.fieldLink RX8 41 "SlopeRunner$Tape" "firstStep" "I") (List.mem_of_getElem? (i := 5) rfl)
  have fl44 := hts (.fieldLink RX8 44 "SlopeRunner$Tape" "size" "I") (List.mem_of_getElem? (i := 6) rfl)
  have fl11 := hts (.fieldLink RX8 11 "SlopeRunner$Tape" "value" "[J") (List.mem_of_getElem? (i := 7) rfl)
  have kl_1 : (1 : Int64).toInt = 1 := rfl
  have kk_8 : (8 : Int32).toInt = 8 := rfl
  refine lv_aload_n hx hb dX8_begin_0 rfl (lv_at hl 0 rfl) ?_
  have hPs : va_P D vwCl (tpw y ad σ) H := x_suP hP [0, 3, 4, 5, 6, 7] rfl
  have hDs : va_D A (tpw y ad σ) := x_suD hD [0, 3, 4, 5, 6, 7] rfl (by decide)
  refine x_callvS (b1 := fun (u : Int32 × Int32 × Int32 × Int32 × Int32 × Int32 × Int32 × Int64) => (tbw y ad (sJ (sI (sI (sI (sI (sI (sI (sI σ 136 u.1) 137 u.2.1) 138 u.2.2.1) 139 u.2.2.2.1) 140 u.2.2.2.2.1) 141 u.2.2.2.2.2.1) 142 u.2.2.2.2.2.2.1) 143 u.2.2.2.2.2.2.2))) [0, 3, 4, 5, 6, 7] (va_runV (As := []) (rest := []) ⟨hx, hb, hml, hown, hts⟩ (ka_forget l D y H.size ad σ ) (cwV 0 hts g_ka_begin_0 rfl rfl rfl (by decide +kernel) ⟨Nat.le_of_ble_eq_true rfl, Nat.le_of_ble_eq_true rfl⟩) (x_preV (q := (RX8, TX8, 13)) hK hPs hDs (ci := 7) (q0 := 0) rfl tpw_o0) rfl rfl hl.1 rfl (lv_room (Nat.le_of_ble_eq_true rfl)) dX8_begin_1 ⟨Nat.le_of_ble_eq_true rfl, Nat.le_of_ble_eq_true rfl⟩) hP hD hS hA rfl (fun _ => rfl) (fun _ => rfl) (fun _ => rfl) (fun u H locs hw hP hD hS => ?_)
  obtain ⟨n_1, n_2, n_3, n_4, n_5, n_6, n_7, j_8⟩ := u
  try dsimp only at hw
  have hP : va_P D vwCl (tbw y ad (sJ (sI (sI (sI (sI (sI (sI (sI σ 136 n_1) 137 n_2) 138 n_3) 139 n_4) 140 n_5) 141 n_6) 142 n_7) 143 j_8)) H := hP
  have hD : va_D A (tbw y ad (sJ (sI (sI (sI (sI (sI (sI (sI σ 136 n_1) 137 n_2) 138 n_3) 139 n_4) 140 n_5) 141 n_6) 142 n_7) 143 j_8)) := hD
  replace hw : n_2.toInt = 0 ∧ n_4.toInt = 0 ∧ n_6.toInt = 0 ∧ n_3.toInt = 0 := hw
  obtain ⟨hf1, hf2, hf3, hf4⟩ := hw
  refine lv_aload_n hx hb dX8_begin_4 rfl (lv_at hl 0 rfl) ?_
  refine lv_bipush (v := (-2)) hx hb dX8_begin_5 (by decide) ?_
  refine va_put (D := D) (ci := 7) (v := .int (-2)) (ty := .int) (C := RX8) (T := TX8) (N := 13) hx hb hts inX8 tyX8 tyX8_ok nmX8 hown hK hP hD hS 0 tbw_o0 rfl 5 (by decide) fl28 (fun _ h9 => h9) rfl (by decide +kernel) rfl rfl (Nat.le_of_ble_eq_true rfl) dX8_begin_7 (fun H locs hP hD hS => ?_)
  have hP : va_P D vwCl (tbw y ad (sI (sJ (sI (sI (sI (sI (sI (sI (sI σ 136 n_1) 137 n_2) 138 n_3) 139 n_4) 140 n_5) 141 n_6) 142 n_7) 143 j_8) 136 (-2))) H := x_trP hP tbw_p0_5
  have hD : va_D A (tbw y ad (sI (sJ (sI (sI (sI (sI (sI (sI (sI σ 136 n_1) 137 n_2) 138 n_3) 139 n_4) 140 n_5) 141 n_6) 142 n_7) 143 j_8) 136 (-2))) := x_trD hD tbw_p0_5
  refine lv_aload_n hx hb dX8_begin_10 rfl (lv_at hl 0 rfl) ?_
  refine lv_aload_n hx hb dX8_begin_11 rfl (lv_at hl 1 rfl) ?_
  refine va_get (D := D) (ci := 5) (v := .int (σ.1 81)) (C := RX6) (T := TX6) (N := 13) hx hb hts inX6 hown hK hP 1 tbw_o1 rfl 0 (by decide) fl59 (fun _ h9 => h9) rfl dX8_begin_12 ?_
  refine va_put (D := D) (ci := 7) (v := .int (σ.1 81)) (ty := .int) (C := RX8) (T := TX8) (N := 13) hx hb hts inX8 tyX8 tyX8_ok nmX8 hown hK hP hD hS 0 tbw_o0 rfl 6 (by decide) fl38 (fun _ h9 => h9) rfl (by decide +kernel) rfl rfl (Nat.le_of_ble_eq_true rfl) dX8_begin_15 (fun H locs hP hD hS => ?_)
  have hP : va_P D vwCl (tbw y ad (sI (sI (sJ (sI (sI (sI (sI (sI (sI (sI σ 136 n_1) 137 n_2) 138 n_3) 139 n_4) 140 n_5) 141 n_6) 142 n_7) 143 j_8) 136 (-2)) 137 (σ.1 81))) H := x_trP hP tbw_p0_6
  have hD : va_D A (tbw y ad (sI (sI (sJ (sI (sI (sI (sI (sI (sI (sI σ 136 n_1) 137 n_2) 138 n_3) 139 n_4) 140 n_5) 141 n_6) 142 n_7) 143 j_8) 136 (-2)) 137 (σ.1 81))) := x_trD hD tbw_p0_6
  refine lv_aload_n hx hb dX8_begin_18 rfl (lv_at hl 0 rfl) ?_
  refine lv_aload_n hx hb dX8_begin_19 rfl (lv_at hl 0 rfl) ?_
  refine va_get (D := D) (ci := 7) (v := .int (σ.1 81)) (C := RX8) (T := TX8) (N := 13) hx hb hts inX8 hown hK hP 0 tbw_o0 rfl 6 (by decide) fl38 (fun _ h9 => h9) rfl dX8_begin_20 ?_
  refine lv_iconst (v := 1) hx hb dX8_begin_23 (by decide) ?_
  refine lv_iadd hx hb dX8_begin_24 ?_
  refine lv_topi (fun i_9 ei_9 => ?_)
  have vi_9 : i_9.toInt = (σ.1 81).toInt + 1 := by have h9 := x_add ei_9 (by omega) (by omega); omega
  refine lv_aload_n hx hb dX8_begin_25 rfl (lv_at hl 1 rfl) ?_
  refine va_get (D := D) (ci := 5) (v := .int (σ.1 85)) (C := RX6) (T := TX6) (N := 13) hx hb hts inX6 hown hK hP 1 tbw_o1 rfl 4 (by decide) fl60 (fun _ h9 => h9) rfl dX8_begin_26 ?_
  refine lv_iadd hx hb dX8_begin_29 ?_
  refine lv_topi (fun i_10 ei_10 => ?_)
  have vi_10 : i_10.toInt = i_9.toInt + (σ.1 85).toInt := by have h9 := x_add ei_10 (by omega) (by omega); omega
  refine va_put (D := D) (ci := 7) (v := .int i_10) (ty := .int) (C := RX8) (T := TX8) (N := 13) hx hb hts inX8 tyX8 tyX8_ok nmX8 hown hK hP hD hS 0 tbw_o0 rfl 7 (by decide) fl41 (fun _ h9 => h9) rfl (by decide +kernel) rfl rfl (Nat.le_of_ble_eq_true rfl) dX8_begin_30 (fun H locs hP hD hS => ?_)
  have hP : va_P D vwCl (tbw y ad (sI (sI (sI (sJ (sI (sI (sI (sI (sI (sI (sI σ 136 n_1) 137 n_2) 138 n_3) 139 n_4) 140 n_5) 141 n_6) 142 n_7) 143 j_8) 136 (-2)) 137 (σ.1 81)) 138 i_10)) H := x_trP hP tbw_p0_7
  have hD : va_D A (tbw y ad (sI (sI (sI (sJ (sI (sI (sI (sI (sI (sI (sI σ 136 n_1) 137 n_2) 138 n_3) 139 n_4) 140 n_5) 141 n_6) 142 n_7) 143 j_8) 136 (-2)) 137 (σ.1 81)) 138 i_10)) := x_trD hD tbw_p0_7
  refine lv_aload_n hx hb dX8_begin_33 rfl (lv_at hl 0 rfl) ?_
  refine lv_aload_n hx hb dX8_begin_34 rfl (lv_at hl 0 rfl) ?_
  refine va_get (D := D) (ci := 7) (v := .int i_10) (C := RX8) (T := TX8) (N := 13) hx hb hts inX8 hown hK hP 0 tbw_o0 rfl 7 (by decide) fl41 (fun _ h9 => h9) rfl dX8_begin_35 ?_
  refine va_put (D := D) (ci := 7) (v := .int i_10) (ty := .int) (C := RX8) (T := TX8) (N := 13) hx hb hts inX8 tyX8 tyX8_ok nmX8 hown hK hP hD hS 0 tbw_o0 rfl 8 (by decide) fl44 (fun _ h9 => h9) rfl (by decide +kernel) rfl rfl (Nat.le_of_ble_eq_true rfl) dX8_begin_38 (fun H locs hP hD hS => ?_)
  have hP : va_P D vwCl (tbw y ad (sI (sI (sI (sI (sJ (sI (sI (sI (sI (sI (sI (sI σ 136 n_1) 137 n_2) 138 n_3) 139 n_4) 140 n_5) 141 n_6) 142 n_7) 143 j_8) 136 (-2)) 137 (σ.1 81)) 138 i_10) 139 i_10)) H := x_trP hP tbw_p0_8
  have hD : va_D A (tbw y ad (sI (sI (sI (sI (sJ (sI (sI (sI (sI (sI (sI (sI σ 136 n_1) 137 n_2) 138 n_3) 139 n_4) 140 n_5) 141 n_6) 142 n_7) 143 j_8) 136 (-2)) 137 (σ.1 81)) 138 i_10) 139 i_10)) := x_trD hD tbw_p0_8
  refine lv_iconst (v := 0) hx hb dX8_begin_41 (by decide) ?_
  refine lv_istore_n (lv' := [(3, .int 0), (0, .ref (ad 130)), (1, .ref (ad 80)), (2, .ref (ad 101))]) hx hb dX8_begin_42 rfl hl (by decide) rfl (fun ls hl => ?_)
  have l00 : (0 : Int32).toInt = 0 := rfl
  have hP : va_P D vwCl (tbw y ad (tJ (sI (sI (sI (sI (sJ (sI (sI (sI σ 140 n_5) 141 n_6) 142 n_7) 143 j_8) 136 (-2)) 137 (σ.1 81)) 138 i_10) 139 i_10) 131 (σ.2.2.2 131))) H := hP
  have hD : va_D A (tbw y ad (tJ (sI (sI (sI (sI (sJ (sI (sI (sI σ 140 n_5) 141 n_6) 142 n_7) 143 j_8) 136 (-2)) 137 (σ.1 81)) 138 i_10) 139 i_10) 131 (σ.2.2.2 131))) := hD
  have loop : ∀ (fu : Nat) (i : Int32) (fv : Nat → Int64) (H : Heap) (locs : List Loc) (ls : Array Slot), (0 ≤ i.toInt) → (i.toInt ≤ 8) → (8 - i.toInt < (fu : Int)) → va_P D vwCl (tbw y ad (tJ (sI (sI (sI (sI (sJ (sI (sI (sI σ 140 n_5) 141 n_6) 142 n_7) 143 j_8) 136 (-2)) 137 (σ.1 81)) 138 i_10) 139 i_10) 131 fv)) H → va_D A (tbw y ad (tJ (sI (sI (sI (sI (sJ (sI (sI (sI σ 140 n_5) 141 n_6) 142 n_7) 143 j_8) 136 (-2)) 137 (σ.1 81)) 138 i_10) 139 i_10) 131 fv)) → va_S A s.heap H locs → lv_has ls 4 [(3, .int i), (2, .ref (ad 101)), (1, .ref (ad 80)), (0, .ref (ad 130))] → W p l e ({ frames := 2, cells := 0, slots := 0, locals := 69 } : Room) s m ([.ref (ad 130), .ref (ad 80), .ref (ad 101)] : List Value).toArray below meth c H locs 0 0 Q (F0 m 43 ls []) := by
    intro fu
    induction fu with
    | zero =>
      intro i fv H locs ls hi0 hi1 hm
      exact absurd hm (by omega)
    | succ fu ih_loop =>
      intro i fv H locs ls hi0 hi1 hm hP hD hS hl
      refine lv_iload_n hx hb dX8_begin_43 rfl (lv_at hl 0 rfl) ?_
      refine lv_aload_n hx hb dX8_begin_44 rfl (lv_at hl 3 rfl) ?_
      refine va_get (D := D) (ci := 7) (v := .int (σ.1 81)) (C := RX8) (T := TX8) (N := 13) hx hb hts inX8 hown hK hP 0 tbw_o0 rfl 6 (by decide) fl38 (fun _ h9 => h9) rfl dX8_begin_45 ?_
      refine lv_icmp_ge (tgt := 72) hx hb dX8_begin_48 (by decide) (fun c_11 => ?_) (fun c_11 => ?_)
      · have kc_11 : i.toInt ≥ (σ.1 81).toInt := by have h9 := c_11; simp only [ge_iff_le, gt_iff_lt, x_lt, x_le, x_eq, ne_eq, Int32.not_lt, Int32.not_le] at h9; omega
        refine lv_aload_n hx hb dX8_begin_72 rfl (lv_at hl 3 rfl) ?_
        refine va_get (D := D) (ci := 7) (v := .ref (ad 131)) (C := RX8) (T := TX8) (N := 13) hx hb hts inX8 hown hK hP 0 tbw_o0 rfl 0 (by decide) fl11 (fun _ h9 => h9) rfl dX8_begin_73 ?_
        refine lv_aload_n hx hb dX8_begin_76 rfl (lv_at hl 3 rfl) ?_
        have hPs : va_P D vwCl (tpw y ad (tJ (sI (sI (sI (sI (sJ (sI (sI (sI σ 140 n_5) 141 n_6) 142 n_7) 143 j_8) 136 (-2)) 137 (σ.1 81)) 138 i_10) 139 i_10) 131 fv)) H := x_suP hP [0, 3, 4, 5, 6, 7] rfl
        have hDs : va_D A (tpw y ad (tJ (sI (sI (sI (sI (sJ (sI (sI (sI σ 140 n_5) 141 n_6) 142 n_7) 143 j_8) 136 (-2)) 137 (σ.1 81)) 138 i_10) 139 i_10) 131 fv)) := x_suD hD [0, 3, 4, 5, 6, 7] rfl (by decide)
        refine x_calliS (b1 := fun (u : Unit) => (tbw y ad (tJ (sI (sI (sI (sI (sJ (sI (sI (sI σ 140 n_5) 141 n_6) 142 n_7) 143 j_8) 136 (-2)) 137 (σ.1 81)) 138 i_10) 139 i_10) 131 fv))) [0, 3, 4, 5, 6, 7] (va_runV (As := []) (rest := [.ref (ad 131)]) ⟨hx, hb, hml, hown, hts⟩ (ka_zeroAt l D y H.size ad (tJ (sI (sI (sI (sI (sJ (sI (sI (sI σ 140 n_5) 141 n_6) 142 n_7) 143 j_8) 136 (-2)) 137 (σ.1 81)) 138 i_10) 139 i_10) 131 fv) ) (cwV 0 hts g_ka_begin_1 rfl rfl rfl (by decide +kernel) ⟨Nat.le_of_ble_eq_true rfl, Nat.le_of_ble_eq_true rfl⟩) (x_preV (q := (RX8, TX8, 13)) hK hPs hDs (ci := 7) (q0 := 0) rfl tpw_o0) rfl rfl hl.1 rfl (lv_room (Nat.le_of_ble_eq_true rfl)) dX8_begin_77 ⟨Nat.le_of_ble_eq_true rfl, Nat.le_of_ble_eq_true rfl⟩) hP hD hS hA rfl (fun _ => rfl) (fun _ => rfl) (fun _ => rfl) (fun r_12 u H locs hw hP hD hS => ?_)
        try dsimp only at hw
        have hP : va_P D vwCl (tbw y ad (tJ (sI (sI (sI (sI (sJ (sI (sI (sI σ 140 n_5) 141 n_6) 142 n_7) 143 j_8) 136 (-2)) 137 (σ.1 81)) 138 i_10) 139 i_10) 131 fv)) H := hP
        have hD : va_D A (tbw y ad (tJ (sI (sI (sI (sI (sJ (sI (sI (sI σ 140 n_5) 141 n_6) 142 n_7) 143 j_8) 136 (-2)) 137 (σ.1 81)) 138 i_10) 139 i_10) 131 fv)) := hD
        replace hw : r_12 = (σ.1 81) := hw
        have hwz : r_12.toInt = (σ.1 81).toInt := by rw [hw]
        refine lv_lconst (v := 1) hx hb dX8_begin_80 (by decide) ?_
        refine va_last hx hb hK hP hD hS 3 3 tbw_a3 rfl (x_in (by omega) (by omega)) dX8_begin_81 (fun H locs hP hD hS => ?_)
        obtain ⟨f_13, ef_13⟩ : ∃ z9 : Nat → Int64, z9 = (vp_updL fv (Int32.toNatClampNeg r_12) 1) := ⟨_, rfl⟩
        have hP : va_P D vwCl (tbw y ad (tJ (tJ (sI (sI (sI (sI (sJ (sI (sI (sI σ 140 n_5) 141 n_6) 142 n_7) 143 j_8) 136 (-2)) 137 (σ.1 81)) 138 i_10) 139 i_10) 131 fv) 131 f_13)) H := by rw [ef_13]; exact x_trP hP tbw_s3
        have hD : va_D A (tbw y ad (tJ (tJ (sI (sI (sI (sI (sJ (sI (sI (sI σ 140 n_5) 141 n_6) 142 n_7) 143 j_8) 136 (-2)) 137 (σ.1 81)) 138 i_10) 139 i_10) 131 fv) 131 f_13)) := by rw [ef_13]; exact x_trD hD tbw_s3
        refine lv_iconst (v := 0) hx hb dX8_begin_82 (by decide) ?_
        refine lv_istore_n (lv' := [(3, .int 0), (2, .ref (ad 101)), (1, .ref (ad 80)), (0, .ref (ad 130))]) hx hb dX8_begin_83 rfl hl (by decide) rfl (fun ls hl => ?_)
        have l00 : (0 : Int32).toInt = 0 := rfl
        have hP : va_P D vwCl (tbw y ad (tJ (sI (sI (sI (sI (sJ (sI (sI (sI σ 140 n_5) 141 n_6) 142 n_7) 143 j_8) 136 (-2)) 137 (σ.1 81)) 138 i_10) 139 i_10) 131 f_13)) H := hP
        have hD : va_D A (tbw y ad (tJ (sI (sI (sI (sI (sJ (sI (sI (sI σ 140 n_5) 141 n_6) 142 n_7) 143 j_8) 136 (-2)) 137 (σ.1 81)) 138 i_10) 139 i_10) 131 f_13)) := hD
        have loop2 : ∀ (fu : Nat) (j : Int32) (gv : Nat → Int64) (H : Heap) (locs : List Loc) (ls : Array Slot), (0 ≤ j.toInt) → (j.toInt ≤ (σ.1 85).toInt) → ((σ.1 85).toInt - j.toInt < (fu : Int)) → va_P D vwCl (tbw y ad (tJ (sI (sI (sI (sI (sJ (sI (sI (sI σ 140 n_5) 141 n_6) 142 n_7) 143 j_8) 136 (-2)) 137 (σ.1 81)) 138 i_10) 139 i_10) 131 gv)) H → va_D A (tbw y ad (tJ (sI (sI (sI (sI (sJ (sI (sI (sI σ 140 n_5) 141 n_6) 142 n_7) 143 j_8) 136 (-2)) 137 (σ.1 81)) 138 i_10) 139 i_10) 131 gv)) → va_S A s.heap H locs → lv_has ls 4 [(3, .int j), (2, .ref (ad 101)), (1, .ref (ad 80)), (0, .ref (ad 130))] → W p l e ({ frames := 2, cells := 0, slots := 0, locals := 69 } : Room) s m ([.ref (ad 130), .ref (ad 80), .ref (ad 101)] : List Value).toArray below meth c H locs 0 0 Q (F0 m 84 ls []) := by
          intro fu
          induction fu with
          | zero =>
            intro j gv H locs ls hj0 hj1 hm
            exact absurd hm (by omega)
          | succ fu ih_loop2 =>
            intro j gv H locs ls hj0 hj1 hm hP hD hS hl
            refine lv_iload_n hx hb dX8_begin_84 rfl (lv_at hl 0 rfl) ?_
            refine lv_aload_n hx hb dX8_begin_85 rfl (lv_at hl 2 rfl) ?_
            refine va_get (D := D) (ci := 5) (v := .int (σ.1 85)) (C := RX6) (T := TX6) (N := 13) hx hb hts inX6 hown hK hP 1 tbw_o1 rfl 4 (by decide) fl60 (fun _ h9 => h9) rfl dX8_begin_86 ?_
            refine lv_icmp_ge (tgt := 118) hx hb dX8_begin_89 (by decide) (fun c_14 => ?_) (fun c_14 => ?_)
            · have kc_14 : j.toInt ≥ (σ.1 85).toInt := by have h9 := c_14; simp only [ge_iff_le, gt_iff_lt, x_lt, x_le, x_eq, ne_eq, Int32.not_lt, Int32.not_le] at h9; omega
              have hP : va_P D vwCl (tbw y ad (tJ (sJ (sI (sI (sI (sI (sI (sI (sI σ 136 (-2)) 137 (σ.1 81)) 138 i_10) 139 i_10) 140 n_5) 141 n_6) 142 n_7) 143 j_8) 131 gv)) H := hP
              have hD : va_D A (tbw y ad (tJ (sJ (sI (sI (sI (sI (sI (sI (sI σ 136 (-2)) 137 (σ.1 81)) 138 i_10) 139 i_10) 140 n_5) 141 n_6) 142 n_7) 143 j_8) 131 gv)) := hD
              exact x_vretW (u := ((-2), (σ.1 81), i_10, i_10, n_5, n_6, n_7, j_8, gv)) hx hb hr hQ (by (try dsimp only); exact ⟨by omega, by omega, by omega, by omega, by omega⟩) hP hD hK hS dX8_begin_118 hlocks
            · have kc_14 : j.toInt < (σ.1 85).toInt := by have h9 := c_14; simp only [ge_iff_le, gt_iff_lt, x_lt, x_le, x_eq, ne_eq, Int32.not_lt, Int32.not_le] at h9; omega
              refine lv_aload_n hx hb dX8_begin_92 rfl (lv_at hl 3 rfl) ?_
              refine va_get (D := D) (ci := 7) (v := .ref (ad 131)) (C := RX8) (T := TX8) (N := 13) hx hb hts inX8 hown hK hP 0 tbw_o0 rfl 0 (by decide) fl11 (fun _ h9 => h9) rfl dX8_begin_93 ?_
              refine lv_aload_n hx hb dX8_begin_96 rfl (lv_at hl 3 rfl) ?_
              refine lv_iload_n hx hb dX8_begin_97 rfl (lv_at hl 0 rfl) ?_
              have hPs : va_P D vwCl (tpw y ad (tJ (sI (sI (sI (sI (sJ (sI (sI (sI σ 140 n_5) 141 n_6) 142 n_7) 143 j_8) 136 (-2)) 137 (σ.1 81)) 138 i_10) 139 i_10) 131 gv)) H := x_suP hP [0, 3, 4, 5, 6, 7] rfl
              have hDs : va_D A (tpw y ad (tJ (sI (sI (sI (sI (sJ (sI (sI (sI σ 140 n_5) 141 n_6) 142 n_7) 143 j_8) 136 (-2)) 137 (σ.1 81)) 138 i_10) 139 i_10) 131 gv)) := x_suD hD [0, 3, 4, 5, 6, 7] rfl (by decide)
              refine x_calliS (b1 := fun (u : Unit) => (tbw y ad (tJ (sI (sI (sI (sI (sJ (sI (sI (sI σ 140 n_5) 141 n_6) 142 n_7) 143 j_8) 136 (-2)) 137 (σ.1 81)) 138 i_10) 139 i_10) 131 gv))) [0, 3, 4, 5, 6, 7] (va_runV (As := [.int j]) (rest := [.ref (ad 131)]) ⟨hx, hb, hml, hown, hts⟩ (ka_numberAt l D y H.size ad (tJ (sI (sI (sI (sI (sJ (sI (sI (sI σ 140 n_5) 141 n_6) 142 n_7) 143 j_8) 136 (-2)) 137 (σ.1 81)) 138 i_10) 139 i_10) 131 gv) j (by first | omega | decide) (by first | omega | decide) (show 0 ≤ ((σ.1 81)).toInt from by first | omega | decide) (show ((σ.1 81)).toInt ≤ 8 from by first | omega | decide)) (cwV 1 hts g_ka_begin_2 rfl rfl rfl (by decide +kernel) ⟨Nat.le_of_ble_eq_true rfl, Nat.le_of_ble_eq_true rfl⟩) (x_preV (q := (RX8, TX8, 13)) hK hPs hDs (ci := 7) (q0 := 0) rfl tpw_o0) rfl rfl hl.1 rfl (lv_room (Nat.le_of_ble_eq_true rfl)) dX8_begin_98 ⟨Nat.le_of_ble_eq_true rfl, Nat.le_of_ble_eq_true rfl⟩) hP hD hS hA rfl (fun _ => rfl) (fun _ => rfl) (fun _ => rfl) (fun r_15 u H locs hw hP hD hS => ?_)
              try dsimp only at hw
              have hP : va_P D vwCl (tbw y ad (tJ (sI (sI (sI (sI (sJ (sI (sI (sI σ 140 n_5) 141 n_6) 142 n_7) 143 j_8) 136 (-2)) 137 (σ.1 81)) 138 i_10) 139 i_10) 131 gv)) H := hP
              have hD : va_D A (tbw y ad (tJ (sI (sI (sI (sI (sJ (sI (sI (sI σ 140 n_5) 141 n_6) 142 n_7) 143 j_8) 136 (-2)) 137 (σ.1 81)) 138 i_10) 139 i_10) 131 gv)) := hD
              replace hw : r_15.toInt = ((σ.1 81)).toInt + 1 + j.toInt := hw
              refine lv_aload_n hx hb dX8_begin_101 rfl (lv_at hl 2 rfl) ?_
              refine lv_iload_n hx hb dX8_begin_102 rfl (lv_at hl 0 rfl) ?_
              have hPs : va_P D vwCl (pqw y ad (tJ (sI (sI (sI (sI (sJ (sI (sI (sI σ 140 n_5) 141 n_6) 142 n_7) 143 j_8) 136 (-2)) 137 (σ.1 81)) 138 i_10) 139 i_10) 131 gv)) H := x_suP hP [1, 8, 9, 10, 11, 12, 13] rfl
              have hDs : va_D A (pqw y ad (tJ (sI (sI (sI (sI (sJ (sI (sI (sI σ 140 n_5) 141 n_6) 142 n_7) 143 j_8) 136 (-2)) 137 (σ.1 81)) 138 i_10) 139 i_10) 131 gv)) := x_suD hD [1, 8, 9, 10, 11, 12, 13] rfl (by decide)
              refine x_calliS (b1 := fun (u : Unit) => (tbw y ad (tJ (sI (sI (sI (sI (sJ (sI (sI (sI σ 140 n_5) 141 n_6) 142 n_7) 143 j_8) 136 (-2)) 137 (σ.1 81)) 138 i_10) 139 i_10) 131 gv))) [1, 8, 9, 10, 11, 12, 13] (va_runV (As := [.int j]) (rest := [.int r_15, .ref (ad 131)]) ⟨hx, hb, hml, hown, hts⟩ (p_numberAt l D y H.size ad (tJ (sI (sI (sI (sI (sJ (sI (sI (sI σ 140 n_5) 141 n_6) 142 n_7) 143 j_8) 136 (-2)) 137 (σ.1 81)) 138 i_10) 139 i_10) 131 gv) j (show 0 ≤ ((σ.1 85)).toInt from by first | omega | decide) (show ((σ.1 85)).toInt ≤ 350 from by first | omega | decide)) (cwV 1 hts g_ka_begin_3 rfl rfl rfl (by decide +kernel) ⟨Nat.le_of_ble_eq_true rfl, Nat.le_of_ble_eq_true rfl⟩) (x_preV (q := (RX6, TX6, 13)) hK hPs hDs (ci := 5) (q0 := 0) rfl pqw_o0) rfl rfl hl.1 rfl (lv_room (Nat.le_of_ble_eq_true rfl)) dX8_begin_103 ⟨Nat.le_of_ble_eq_true rfl, Nat.le_of_ble_eq_true rfl⟩) hP hD hS hA rfl (fun _ => rfl) (fun _ => rfl) (fun _ => rfl) (fun r_16 u H locs hw hP hD hS => ?_)
              try dsimp only at hw
              have hP : va_P D vwCl (tbw y ad (tJ (sI (sI (sI (sI (sJ (sI (sI (sI σ 140 n_5) 141 n_6) 142 n_7) 143 j_8) 136 (-2)) 137 (σ.1 81)) 138 i_10) 139 i_10) 131 gv)) H := hP
              have hD : va_D A (tbw y ad (tJ (sI (sI (sI (sI (sJ (sI (sI (sI σ 140 n_5) 141 n_6) 142 n_7) 143 j_8) 136 (-2)) 137 (σ.1 81)) 138 i_10) 139 i_10) 131 gv)) := hD
              refine lv_i2l hx hb dX8_begin_106 rfl ?_
              refine lv_topl (fun j_17 ej_17 => ?_)
              have vj_17 : j_17.toInt = r_16.toInt := by rw [ej_17]; exact Int32.toInt_toInt64 _
              refine lv_lconst (v := 1) hx hb dX8_begin_107 (by decide) ?_
              refine x_calllN (va_runS (As := [.long j_17, .long 1]) (rest := [.int r_15, .ref (ad 131)]) ⟨hx, hb, hml, hown, hts⟩ (k_of l D y H.size j_17 1) (va_cwS 2 hts g_ka_begin_4 rfl rfl rfl (by decide +kernel) ⟨Nat.le_of_ble_eq_true rfl, Nat.le_of_ble_eq_true rfl⟩) (x_preS hK (x_nilP D H) (x_nilD A)) rfl rfl hl.1 rfl (lv_room (Nat.le_of_ble_eq_true rfl)) dX8_begin_108 ⟨Nat.le_of_ble_eq_true rfl, Nat.le_of_ble_eq_true rfl⟩) hP hD hS hA (fun r_18 u H locs hw hP hD hS => ?_)
              try dsimp only at hw
              refine va_last hx hb hK hP hD hS 3 3 tbw_a3 rfl (x_in (by omega) (by omega)) dX8_begin_111 (fun H locs hP hD hS => ?_)
              obtain ⟨f_19, ef_19⟩ : ∃ z9 : Nat → Int64, z9 = (vp_updL gv (Int32.toNatClampNeg r_15) r_18) := ⟨_, rfl⟩
              have hP : va_P D vwCl (tbw y ad (tJ (tJ (sI (sI (sI (sI (sJ (sI (sI (sI σ 140 n_5) 141 n_6) 142 n_7) 143 j_8) 136 (-2)) 137 (σ.1 81)) 138 i_10) 139 i_10) 131 gv) 131 f_19)) H := by rw [ef_19]; exact x_trP hP tbw_s3
              have hD : va_D A (tbw y ad (tJ (tJ (sI (sI (sI (sI (sJ (sI (sI (sI σ 140 n_5) 141 n_6) 142 n_7) 143 j_8) 136 (-2)) 137 (σ.1 81)) 138 i_10) 139 i_10) 131 gv) 131 f_19)) := by rw [ef_19]; exact x_trD hD tbw_s3
              obtain ⟨i_20, ei_20⟩ : ∃ z9 : Int32, z9 = j + 1 := ⟨_, rfl⟩
              have vi_20 : i_20.toInt = j.toInt + 1 := by have h9 := x_add ei_20 (by omega) (by omega); omega
              refine lv_iinc (v := i_20) (lv' := [(3, .int i_20), (2, .ref (ad 101)), (1, .ref (ad 80)), (0, .ref (ad 130))]) hx hb dX8_begin_112 hl (k := 0) rfl (by rw [ei_20]; rfl) (by decide) rfl (fun ls hl => ?_)
              refine lv_goto (tgt := 84) hx hb dX8_begin_115 (by decide) ?_
              have hP : va_P D vwCl (tbw y ad (tJ (sI (sI (sI (sI (sJ (sI (sI (sI σ 140 n_5) 141 n_6) 142 n_7) 143 j_8) 136 (-2)) 137 (σ.1 81)) 138 i_10) 139 i_10) 131 f_19)) H := hP
              have hD : va_D A (tbw y ad (tJ (sI (sI (sI (sI (sJ (sI (sI (sI σ 140 n_5) 141 n_6) 142 n_7) 143 j_8) 136 (-2)) 137 (σ.1 81)) 138 i_10) 139 i_10) 131 f_19)) := hD
              exact ih_loop2 i_20 f_19 H locs ls (by omega) (by omega) (by omega) hP hD hS (lv_sub hl [0, 1, 2, 3] rfl)
        exact loop2 351 0 f_13 H locs ls (by decide) (by omega) (by omega) hP hD hS (lv_sub hl [0, 1, 2, 3] rfl)
      · have kc_11 : i.toInt < (σ.1 81).toInt := by have h9 := c_11; simp only [ge_iff_le, gt_iff_lt, x_lt, x_le, x_eq, ne_eq, Int32.not_lt, Int32.not_le] at h9; omega
        refine lv_iload_n hx hb dX8_begin_51 rfl (lv_at hl 0 rfl) ?_
        refine lv_aload_n hx hb dX8_begin_52 rfl (lv_at hl 1 rfl) ?_
        refine va_alen hx hb hK hP 14 3 tbw_a14 rfl (v := 8) rfl dX8_begin_53 ?_
        refine lv_icmp_ge (tgt := 72) hx hb dX8_begin_54 (by decide) (fun c_21 => ?_) (fun c_21 => ?_)
        · have kc_21 : i.toInt ≥ 8 := by have h9 := c_21; simp only [ge_iff_le, gt_iff_lt, x_lt, x_le, x_eq, ne_eq, Int32.not_lt, Int32.not_le] at h9; simp only [Int32.reduceToInt] at h9; omega
          refine lv_aload_n hx hb dX8_begin_72 rfl (lv_at hl 3 rfl) ?_
          refine va_get (D := D) (ci := 7) (v := .ref (ad 131)) (C := RX8) (T := TX8) (N := 13) hx hb hts inX8 hown hK hP 0 tbw_o0 rfl 0 (by decide) fl11 (fun _ h9 => h9) rfl dX8_begin_73 ?_
          refine lv_aload_n hx hb dX8_begin_76 rfl (lv_at hl 3 rfl) ?_
          have hPs : va_P D vwCl (tpw y ad (tJ (sI (sI (sI (sI (sJ (sI (sI (sI σ 140 n_5) 141 n_6) 142 n_7) 143 j_8) 136 (-2)) 137 (σ.1 81)) 138 i_10) 139 i_10) 131 fv)) H := x_suP hP [0, 3, 4, 5, 6, 7] rfl
          have hDs : va_D A (tpw y ad (tJ (sI (sI (sI (sI (sJ (sI (sI (sI σ 140 n_5) 141 n_6) 142 n_7) 143 j_8) 136 (-2)) 137 (σ.1 81)) 138 i_10) 139 i_10) 131 fv)) := x_suD hD [0, 3, 4, 5, 6, 7] rfl (by decide)
          refine x_calliS (b1 := fun (u : Unit) => (tbw y ad (tJ (sI (sI (sI (sI (sJ (sI (sI (sI σ 140 n_5) 141 n_6) 142 n_7) 143 j_8) 136 (-2)) 137 (σ.1 81)) 138 i_10) 139 i_10) 131 fv))) [0, 3, 4, 5, 6, 7] (va_runV (As := []) (rest := [.ref (ad 131)]) ⟨hx, hb, hml, hown, hts⟩ (ka_zeroAt l D y H.size ad (tJ (sI (sI (sI (sI (sJ (sI (sI (sI σ 140 n_5) 141 n_6) 142 n_7) 143 j_8) 136 (-2)) 137 (σ.1 81)) 138 i_10) 139 i_10) 131 fv) ) (cwV 0 hts g_ka_begin_1 rfl rfl rfl (by decide +kernel) ⟨Nat.le_of_ble_eq_true rfl, Nat.le_of_ble_eq_true rfl⟩) (x_preV (q := (RX8, TX8, 13)) hK hPs hDs (ci := 7) (q0 := 0) rfl tpw_o0) rfl rfl hl.1 rfl (lv_room (Nat.le_of_ble_eq_true rfl)) dX8_begin_77 ⟨Nat.le_of_ble_eq_true rfl, Nat.le_of_ble_eq_true rfl⟩) hP hD hS hA rfl (fun _ => rfl) (fun _ => rfl) (fun _ => rfl) (fun r_22 u H locs hw hP hD hS => ?_)
          try dsimp only at hw
          have hP : va_P D vwCl (tbw y ad (tJ (sI (sI (sI (sI (sJ (sI (sI (sI σ 140 n_5) 141 n_6) 142 n_7) 143 j_8) 136 (-2)) 137 (σ.1 81)) 138 i_10) 139 i_10) 131 fv)) H := hP
          have hD : va_D A (tbw y ad (tJ (sI (sI (sI (sI (sJ (sI (sI (sI σ 140 n_5) 141 n_6) 142 n_7) 143 j_8) 136 (-2)) 137 (σ.1 81)) 138 i_10) 139 i_10) 131 fv)) := hD
          replace hw : r_22 = (σ.1 81) := hw
          have hwz : r_22.toInt = (σ.1 81).toInt := by rw [hw]
          refine lv_lconst (v := 1) hx hb dX8_begin_80 (by decide) ?_
          refine va_last hx hb hK hP hD hS 3 3 tbw_a3 rfl (x_in (by omega) (by omega)) dX8_begin_81 (fun H locs hP hD hS => ?_)
          obtain ⟨f_23, ef_23⟩ : ∃ z9 : Nat → Int64, z9 = (vp_updL fv (Int32.toNatClampNeg r_22) 1) := ⟨_, rfl⟩
          have hP : va_P D vwCl (tbw y ad (tJ (tJ (sI (sI (sI (sI (sJ (sI (sI (sI σ 140 n_5) 141 n_6) 142 n_7) 143 j_8) 136 (-2)) 137 (σ.1 81)) 138 i_10) 139 i_10) 131 fv) 131 f_23)) H := by rw [ef_23]; exact x_trP hP tbw_s3
          have hD : va_D A (tbw y ad (tJ (tJ (sI (sI (sI (sI (sJ (sI (sI (sI σ 140 n_5) 141 n_6) 142 n_7) 143 j_8) 136 (-2)) 137 (σ.1 81)) 138 i_10) 139 i_10) 131 fv) 131 f_23)) := by rw [ef_23]; exact x_trD hD tbw_s3
          refine lv_iconst (v := 0) hx hb dX8_begin_82 (by decide) ?_
          refine lv_istore_n (lv' := [(3, .int 0), (2, .ref (ad 101)), (1, .ref (ad 80)), (0, .ref (ad 130))]) hx hb dX8_begin_83 rfl hl (by decide) rfl (fun ls hl => ?_)
          have hP : va_P D vwCl (tbw y ad (tJ (sI (sI (sI (sI (sJ (sI (sI (sI σ 140 n_5) 141 n_6) 142 n_7) 143 j_8) 136 (-2)) 137 (σ.1 81)) 138 i_10) 139 i_10) 131 f_23)) H := hP
          have hD : va_D A (tbw y ad (tJ (sI (sI (sI (sI (sJ (sI (sI (sI σ 140 n_5) 141 n_6) 142 n_7) 143 j_8) 136 (-2)) 137 (σ.1 81)) 138 i_10) 139 i_10) 131 f_23)) := hD
          have loop2 : ∀ (fu : Nat) (j : Int32) (gv : Nat → Int64) (H : Heap) (locs : List Loc) (ls : Array Slot), (0 ≤ j.toInt) → (j.toInt ≤ (σ.1 85).toInt) → ((σ.1 85).toInt - j.toInt < (fu : Int)) → va_P D vwCl (tbw y ad (tJ (sI (sI (sI (sI (sJ (sI (sI (sI σ 140 n_5) 141 n_6) 142 n_7) 143 j_8) 136 (-2)) 137 (σ.1 81)) 138 i_10) 139 i_10) 131 gv)) H → va_D A (tbw y ad (tJ (sI (sI (sI (sI (sJ (sI (sI (sI σ 140 n_5) 141 n_6) 142 n_7) 143 j_8) 136 (-2)) 137 (σ.1 81)) 138 i_10) 139 i_10) 131 gv)) → va_S A s.heap H locs → lv_has ls 4 [(3, .int j), (2, .ref (ad 101)), (1, .ref (ad 80)), (0, .ref (ad 130))] → W p l e ({ frames := 2, cells := 0, slots := 0, locals := 69 } : Room) s m ([.ref (ad 130), .ref (ad 80), .ref (ad 101)] : List Value).toArray below meth c H locs 0 0 Q (F0 m 84 ls []) := by
            intro fu
            induction fu with
            | zero =>
              intro j gv H locs ls hj0 hj1 hm
              exact absurd hm (by omega)
            | succ fu ih_loop2 =>
              intro j gv H locs ls hj0 hj1 hm hP hD hS hl
              refine lv_iload_n hx hb dX8_begin_84 rfl (lv_at hl 0 rfl) ?_
              refine lv_aload_n hx hb dX8_begin_85 rfl (lv_at hl 2 rfl) ?_
              refine va_get (D := D) (ci := 5) (v := .int (σ.1 85)) (C := RX6) (T := TX6) (N := 13) hx hb hts inX6 hown hK hP 1 tbw_o1 rfl 4 (by decide) fl60 (fun _ h9 => h9) rfl dX8_begin_86 ?_
              refine lv_icmp_ge (tgt := 118) hx hb dX8_begin_89 (by decide) (fun c_24 => ?_) (fun c_24 => ?_)
              · have kc_24 : j.toInt ≥ (σ.1 85).toInt := by have h9 := c_24; simp only [ge_iff_le, gt_iff_lt, x_lt, x_le, x_eq, ne_eq, Int32.not_lt, Int32.not_le] at h9; omega
                have hP : va_P D vwCl (tbw y ad (tJ (sJ (sI (sI (sI (sI (sI (sI (sI σ 136 (-2)) 137 (σ.1 81)) 138 i_10) 139 i_10) 140 n_5) 141 n_6) 142 n_7) 143 j_8) 131 gv)) H := hP
                have hD : va_D A (tbw y ad (tJ (sJ (sI (sI (sI (sI (sI (sI (sI σ 136 (-2)) 137 (σ.1 81)) 138 i_10) 139 i_10) 140 n_5) 141 n_6) 142 n_7) 143 j_8) 131 gv)) := hD
                exact x_vretW (u := ((-2), (σ.1 81), i_10, i_10, n_5, n_6, n_7, j_8, gv)) hx hb hr hQ (by (try dsimp only); exact ⟨by omega, by omega, by omega, by omega, by omega⟩) hP hD hK hS dX8_begin_118 hlocks
              · have kc_24 : j.toInt < (σ.1 85).toInt := by have h9 := c_24; simp only [ge_iff_le, gt_iff_lt, x_lt, x_le, x_eq, ne_eq, Int32.not_lt, Int32.not_le] at h9; omega
                refine lv_aload_n hx hb dX8_begin_92 rfl (lv_at hl 3 rfl) ?_
                refine va_get (D := D) (ci := 7) (v := .ref (ad 131)) (C := RX8) (T := TX8) (N := 13) hx hb hts inX8 hown hK hP 0 tbw_o0 rfl 0 (by decide) fl11 (fun _ h9 => h9) rfl dX8_begin_93 ?_
                refine lv_aload_n hx hb dX8_begin_96 rfl (lv_at hl 3 rfl) ?_
                refine lv_iload_n hx hb dX8_begin_97 rfl (lv_at hl 0 rfl) ?_
                have hPs : va_P D vwCl (tpw y ad (tJ (sI (sI (sI (sI (sJ (sI (sI (sI σ 140 n_5) 141 n_6) 142 n_7) 143 j_8) 136 (-2)) 137 (σ.1 81)) 138 i_10) 139 i_10) 131 gv)) H := x_suP hP [0, 3, 4, 5, 6, 7] rfl
                have hDs : va_D A (tpw y ad (tJ (sI (sI (sI (sI (sJ (sI (sI (sI σ 140 n_5) 141 n_6) 142 n_7) 143 j_8) 136 (-2)) 137 (σ.1 81)) 138 i_10) 139 i_10) 131 gv)) := x_suD hD [0, 3, 4, 5, 6, 7] rfl (by decide)
                refine x_calliS (b1 := fun (u : Unit) => (tbw y ad (tJ (sI (sI (sI (sI (sJ (sI (sI (sI σ 140 n_5) 141 n_6) 142 n_7) 143 j_8) 136 (-2)) 137 (σ.1 81)) 138 i_10) 139 i_10) 131 gv))) [0, 3, 4, 5, 6, 7] (va_runV (As := [.int j]) (rest := [.ref (ad 131)]) ⟨hx, hb, hml, hown, hts⟩ (ka_numberAt l D y H.size ad (tJ (sI (sI (sI (sI (sJ (sI (sI (sI σ 140 n_5) 141 n_6) 142 n_7) 143 j_8) 136 (-2)) 137 (σ.1 81)) 138 i_10) 139 i_10) 131 gv) j (by first | omega | decide) (by first | omega | decide) (show 0 ≤ ((σ.1 81)).toInt from by first | omega | decide) (show ((σ.1 81)).toInt ≤ 8 from by first | omega | decide)) (cwV 1 hts g_ka_begin_2 rfl rfl rfl (by decide +kernel) ⟨Nat.le_of_ble_eq_true rfl, Nat.le_of_ble_eq_true rfl⟩) (x_preV (q := (RX8, TX8, 13)) hK hPs hDs (ci := 7) (q0 := 0) rfl tpw_o0) rfl rfl hl.1 rfl (lv_room (Nat.le_of_ble_eq_true rfl)) dX8_begin_98 ⟨Nat.le_of_ble_eq_true rfl, Nat.le_of_ble_eq_true rfl⟩) hP hD hS hA rfl (fun _ => rfl) (fun _ => rfl) (fun _ => rfl) (fun r_25 u H locs hw hP hD hS => ?_)
                try dsimp only at hw
                have hP : va_P D vwCl (tbw y ad (tJ (sI (sI (sI (sI (sJ (sI (sI (sI σ 140 n_5) 141 n_6) 142 n_7) 143 j_8) 136 (-2)) 137 (σ.1 81)) 138 i_10) 139 i_10) 131 gv)) H := hP
                have hD : va_D A (tbw y ad (tJ (sI (sI (sI (sI (sJ (sI (sI (sI σ 140 n_5) 141 n_6) 142 n_7) 143 j_8) 136 (-2)) 137 (σ.1 81)) 138 i_10) 139 i_10) 131 gv)) := hD
                replace hw : r_25.toInt = ((σ.1 81)).toInt + 1 + j.toInt := hw
                refine lv_aload_n hx hb dX8_begin_101 rfl (lv_at hl 2 rfl) ?_
                refine lv_iload_n hx hb dX8_begin_102 rfl (lv_at hl 0 rfl) ?_
                have hPs : va_P D vwCl (pqw y ad (tJ (sI (sI (sI (sI (sJ (sI (sI (sI σ 140 n_5) 141 n_6) 142 n_7) 143 j_8) 136 (-2)) 137 (σ.1 81)) 138 i_10) 139 i_10) 131 gv)) H := x_suP hP [1, 8, 9, 10, 11, 12, 13] rfl
                have hDs : va_D A (pqw y ad (tJ (sI (sI (sI (sI (sJ (sI (sI (sI σ 140 n_5) 141 n_6) 142 n_7) 143 j_8) 136 (-2)) 137 (σ.1 81)) 138 i_10) 139 i_10) 131 gv)) := x_suD hD [1, 8, 9, 10, 11, 12, 13] rfl (by decide)
                refine x_calliS (b1 := fun (u : Unit) => (tbw y ad (tJ (sI (sI (sI (sI (sJ (sI (sI (sI σ 140 n_5) 141 n_6) 142 n_7) 143 j_8) 136 (-2)) 137 (σ.1 81)) 138 i_10) 139 i_10) 131 gv))) [1, 8, 9, 10, 11, 12, 13] (va_runV (As := [.int j]) (rest := [.int r_25, .ref (ad 131)]) ⟨hx, hb, hml, hown, hts⟩ (p_numberAt l D y H.size ad (tJ (sI (sI (sI (sI (sJ (sI (sI (sI σ 140 n_5) 141 n_6) 142 n_7) 143 j_8) 136 (-2)) 137 (σ.1 81)) 138 i_10) 139 i_10) 131 gv) j (show 0 ≤ ((σ.1 85)).toInt from by first | omega | decide) (show ((σ.1 85)).toInt ≤ 350 from by first | omega | decide)) (cwV 1 hts g_ka_begin_3 rfl rfl rfl (by decide +kernel) ⟨Nat.le_of_ble_eq_true rfl, Nat.le_of_ble_eq_true rfl⟩) (x_preV (q := (RX6, TX6, 13)) hK hPs hDs (ci := 5) (q0 := 0) rfl pqw_o0) rfl rfl hl.1 rfl (lv_room (Nat.le_of_ble_eq_true rfl)) dX8_begin_103 ⟨Nat.le_of_ble_eq_true rfl, Nat.le_of_ble_eq_true rfl⟩) hP hD hS hA rfl (fun _ => rfl) (fun _ => rfl) (fun _ => rfl) (fun r_26 u H locs hw hP hD hS => ?_)
                try dsimp only at hw
                have hP : va_P D vwCl (tbw y ad (tJ (sI (sI (sI (sI (sJ (sI (sI (sI σ 140 n_5) 141 n_6) 142 n_7) 143 j_8) 136 (-2)) 137 (σ.1 81)) 138 i_10) 139 i_10) 131 gv)) H := hP
                have hD : va_D A (tbw y ad (tJ (sI (sI (sI (sI (sJ (sI (sI (sI σ 140 n_5) 141 n_6) 142 n_7) 143 j_8) 136 (-2)) 137 (σ.1 81)) 138 i_10) 139 i_10) 131 gv)) := hD
                refine lv_i2l hx hb dX8_begin_106 rfl ?_
                refine lv_topl (fun j_27 ej_27 => ?_)
                have vj_27 : j_27.toInt = r_26.toInt := by rw [ej_27]; exact Int32.toInt_toInt64 _
                refine lv_lconst (v := 1) hx hb dX8_begin_107 (by decide) ?_
                refine x_calllN (va_runS (As := [.long j_27, .long 1]) (rest := [.int r_25, .ref (ad 131)]) ⟨hx, hb, hml, hown, hts⟩ (k_of l D y H.size j_27 1) (va_cwS 2 hts g_ka_begin_4 rfl rfl rfl (by decide +kernel) ⟨Nat.le_of_ble_eq_true rfl, Nat.le_of_ble_eq_true rfl⟩) (x_preS hK (x_nilP D H) (x_nilD A)) rfl rfl hl.1 rfl (lv_room (Nat.le_of_ble_eq_true rfl)) dX8_begin_108 ⟨Nat.le_of_ble_eq_true rfl, Nat.le_of_ble_eq_true rfl⟩) hP hD hS hA (fun r_28 u H locs hw hP hD hS => ?_)
                try dsimp only at hw
                refine va_last hx hb hK hP hD hS 3 3 tbw_a3 rfl (x_in (by omega) (by omega)) dX8_begin_111 (fun H locs hP hD hS => ?_)
                obtain ⟨f_29, ef_29⟩ : ∃ z9 : Nat → Int64, z9 = (vp_updL gv (Int32.toNatClampNeg r_25) r_28) := ⟨_, rfl⟩
                have hP : va_P D vwCl (tbw y ad (tJ (tJ (sI (sI (sI (sI (sJ (sI (sI (sI σ 140 n_5) 141 n_6) 142 n_7) 143 j_8) 136 (-2)) 137 (σ.1 81)) 138 i_10) 139 i_10) 131 gv) 131 f_29)) H := by rw [ef_29]; exact x_trP hP tbw_s3
                have hD : va_D A (tbw y ad (tJ (tJ (sI (sI (sI (sI (sJ (sI (sI (sI σ 140 n_5) 141 n_6) 142 n_7) 143 j_8) 136 (-2)) 137 (σ.1 81)) 138 i_10) 139 i_10) 131 gv) 131 f_29)) := by rw [ef_29]; exact x_trD hD tbw_s3
                obtain ⟨i_30, ei_30⟩ : ∃ z9 : Int32, z9 = j + 1 := ⟨_, rfl⟩
                have vi_30 : i_30.toInt = j.toInt + 1 := by have h9 := x_add ei_30 (by omega) (by omega); omega
                refine lv_iinc (v := i_30) (lv' := [(3, .int i_30), (2, .ref (ad 101)), (1, .ref (ad 80)), (0, .ref (ad 130))]) hx hb dX8_begin_112 hl (k := 0) rfl (by rw [ei_30]; rfl) (by decide) rfl (fun ls hl => ?_)
                refine lv_goto (tgt := 84) hx hb dX8_begin_115 (by decide) ?_
                have hP : va_P D vwCl (tbw y ad (tJ (sI (sI (sI (sI (sJ (sI (sI (sI σ 140 n_5) 141 n_6) 142 n_7) 143 j_8) 136 (-2)) 137 (σ.1 81)) 138 i_10) 139 i_10) 131 f_29)) H := hP
                have hD : va_D A (tbw y ad (tJ (sI (sI (sI (sI (sJ (sI (sI (sI σ 140 n_5) 141 n_6) 142 n_7) 143 j_8) 136 (-2)) 137 (σ.1 81)) 138 i_10) 139 i_10) 131 f_29)) := hD
                exact ih_loop2 i_30 f_29 H locs ls (by omega) (by omega) (by omega) hP hD hS (lv_sub hl [0, 1, 2, 3] rfl)
          exact loop2 351 0 f_23 H locs ls (by decide) (by omega) (by omega) hP hD hS (lv_sub hl [0, 1, 2, 3] rfl)
        · have kc_21 : i.toInt < 8 := by have h9 := c_21; simp only [ge_iff_le, gt_iff_lt, x_lt, x_le, x_eq, ne_eq, Int32.not_lt, Int32.not_le] at h9; simp only [Int32.reduceToInt] at h9; omega
          refine lv_aload_n hx hb dX8_begin_57 rfl (lv_at hl 3 rfl) ?_
          refine va_get (D := D) (ci := 7) (v := .ref (ad 131)) (C := RX8) (T := TX8) (N := 13) hx hb hts inX8 hown hK hP 0 tbw_o0 rfl 0 (by decide) fl11 (fun _ h9 => h9) rfl dX8_begin_58 ?_
          refine lv_iload_n hx hb dX8_begin_61 rfl (lv_at hl 0 rfl) ?_
          refine lv_aload_n hx hb dX8_begin_62 rfl (lv_at hl 1 rfl) ?_
          refine lv_iload_n hx hb dX8_begin_63 rfl (lv_at hl 0 rfl) ?_
          refine va_lald hx hb hK hP 14 3 tbw_a14 rfl (x_in (by omega) (by omega)) dX8_begin_64 ?_
          refine lv_topl (fun j_31 ej_31 => ?_)
          have ej_31 : j_31 = (σ.2.2.2 101) (Int32.toNatClampNeg i) := ej_31
          refine va_last hx hb hK hP hD hS 3 3 tbw_a3 rfl (x_in (by omega) (by omega)) dX8_begin_65 (fun H locs hP hD hS => ?_)
          obtain ⟨f_32, ef_32⟩ : ∃ z9 : Nat → Int64, z9 = (vp_updL fv (Int32.toNatClampNeg i) j_31) := ⟨_, rfl⟩
          have hP : va_P D vwCl (tbw y ad (tJ (tJ (sI (sI (sI (sI (sJ (sI (sI (sI σ 140 n_5) 141 n_6) 142 n_7) 143 j_8) 136 (-2)) 137 (σ.1 81)) 138 i_10) 139 i_10) 131 fv) 131 f_32)) H := by rw [ef_32]; exact x_trP hP tbw_s3
          have hD : va_D A (tbw y ad (tJ (tJ (sI (sI (sI (sI (sJ (sI (sI (sI σ 140 n_5) 141 n_6) 142 n_7) 143 j_8) 136 (-2)) 137 (σ.1 81)) 138 i_10) 139 i_10) 131 fv) 131 f_32)) := by rw [ef_32]; exact x_trD hD tbw_s3
          obtain ⟨i_33, ei_33⟩ : ∃ z9 : Int32, z9 = i + 1 := ⟨_, rfl⟩
          have vi_33 : i_33.toInt = i.toInt + 1 := by have h9 := x_add ei_33 (by omega) (by omega); omega
          refine lv_iinc (v := i_33) (lv' := [(3, .int i_33), (2, .ref (ad 101)), (1, .ref (ad 80)), (0, .ref (ad 130))]) hx hb dX8_begin_66 hl (k := 0) rfl (by rw [ei_33]; rfl) (by decide) rfl (fun ls hl => ?_)
          refine lv_goto (tgt := 43) hx hb dX8_begin_69 (by decide) ?_
          have hP : va_P D vwCl (tbw y ad (tJ (sI (sI (sI (sI (sJ (sI (sI (sI σ 140 n_5) 141 n_6) 142 n_7) 143 j_8) 136 (-2)) 137 (σ.1 81)) 138 i_10) 139 i_10) 131 f_32)) H := hP
          have hD : va_D A (tbw y ad (tJ (sI (sI (sI (sI (sJ (sI (sI (sI σ 140 n_5) 141 n_6) 142 n_7) 143 j_8) 136 (-2)) 137 (σ.1 81)) 138 i_10) 139 i_10) 131 f_32)) := hD
          exact ih_loop i_33 f_32 H locs ls (by omega) (by omega) (by omega) hP hD hS (lv_sub hl [0, 1, 2, 3] rfl)
  exact loop 9 0 (σ.2.2.2 131) H locs ls (by decide) (by decide) (by omega) hP hD hS (lv_sub hl [0, 3, 2, 1] rfl)

def v_kb_begin : List Cond := .code yX8_begin cX8_begin 4 none :: ([.fieldLink RX8 28 "SlopeRunner$Tape" "state" "I", .fieldLink RX8 59 "SlopeRunner$Program" "inputs" "I", .fieldLink RX8 38 "SlopeRunner$Tape" "inputs" "I", .fieldLink RX8 60 "SlopeRunner$Program" "numbers" "I", .fieldLink RX8 41 "SlopeRunner$Tape" "firstStep" "I", .fieldLink RX8 44 "SlopeRunner$Tape" "size" "I", .fieldLink RX8 11 "SlopeRunner$Tape" "value" "[J"] ++ ((wsV RX8 56 RX8 yX8_forget v_kb_forget) ++ ((wsV RX8 63 RX8 yX8_zeroAt v_kb_zeroAt) ++ ((wsV RX8 67 RX8 yX8_numberAt v_kb_numberAt) ++ ((wsV RX8 71 RX6 yX6_numberAt v_p_numberAt) ++ ((va_wsS RX8 72 yX0_of v_k_of) ++ (wsX80 ++ wsX60)))))))
theorem g_kb_begin_0 : GoodIn v_kb_begin (wsV RX8 56 RX8 yX8_forget v_kb_forget) := goodIn_sub (fun w h => List.mem_cons_of_mem _ (List.mem_append_right _ (List.mem_append_left _ h))) (by decide +kernel)
theorem g_kb_begin_1 : GoodIn v_kb_begin (wsV RX8 63 RX8 yX8_zeroAt v_kb_zeroAt) := goodIn_sub (fun w h => List.mem_cons_of_mem _ (List.mem_append_right _ (List.mem_append_right _ (List.mem_append_left _ h)))) (by decide +kernel)
theorem g_kb_begin_2 : GoodIn v_kb_begin (wsV RX8 67 RX8 yX8_numberAt v_kb_numberAt) := goodIn_sub (fun w h => List.mem_cons_of_mem _ (List.mem_append_right _ (List.mem_append_right _ (List.mem_append_right _ (List.mem_append_left _ h))))) (by decide +kernel)
theorem g_kb_begin_3 : GoodIn v_kb_begin (wsV RX8 71 RX6 yX6_numberAt v_p_numberAt) := goodIn_sub (fun w h => List.mem_cons_of_mem _ (List.mem_append_right _ (List.mem_append_right _ (List.mem_append_right _ (List.mem_append_right _ (List.mem_append_left _ h)))))) (by decide +kernel)
theorem g_kb_begin_4 : GoodIn v_kb_begin (va_wsS RX8 72 yX0_of v_k_of) := goodIn_sub (fun w h => List.mem_cons_of_mem _ (List.mem_append_right _ (List.mem_append_right _ (List.mem_append_right _ (List.mem_append_right _ (List.mem_append_right _ (List.mem_append_left _ h))))))) (by decide +kernel)
set_option maxHeartbeats 4000000 in
set_option maxRecDepth 100000 in
theorem kb_begin (l : Launch) (D : va_G) (y : Nat → ClassId) (sz : Nat) (ad : Nat → Nat) (σ : OS) (hpi0 : 0 ≤ (σ.1 81).toInt) (hpi1 : (σ.1 81).toInt ≤ 8) (hpn0 : 0 ≤ (σ.1 85).toInt) (hpn1 : (σ.1 85).toInt ≤ 350) : Met l yX8_begin v_kb_begin ({ frames := 2, cells := 0, slots := 0, locals := 69 } : Room) (va_Pc [.ref (ad 150), .ref (ad 80), .ref (ad 131)] (xPre D (xT y) (tcw y ad σ) sz)) (va_Qv (fun (u : Int32 × Int32 × Int32 × Int32 × Int32 × Int32 × Int32 × Int64 × (Nat → Int64)) => u.2.1.toInt = (σ.1 81).toInt ∧ 0 ≤ u.2.2.1.toInt ∧ 0 ≤ u.2.2.2.1.toInt ∧ u.2.2.2.1.toInt ≤ 1359 ∧ u.2.2.2.2.2.1.toInt = 0) (fun (u : Int32 × Int32 × Int32 × Int32 × Int32 × Int32 × Int32 × Int64 × (Nat → Int64)) => xB D (xT y) (va_A (tcw y ad σ) sz) (tcw y ad (tJ (sJ (sI (sI (sI (sI (sI (sI (sI σ 156 u.1) 157 u.2.1) 158 u.2.2.1) 159 u.2.2.2.1) 160 u.2.2.2.2.1) 161 u.2.2.2.2.2.1) 162 u.2.2.2.2.2.2.1) 163 u.2.2.2.2.2.2.2.1) 151 u.2.2.2.2.2.2.2.2))) (va_A (tcw y ad σ) sz)) 0 0 (va_A (tcw y ad σ) sz) := by
  refine x_metv (cc := cX8_begin) (maxL := 4) (by decide) rfl (Nat.le_of_ble_eq_true rfl) ?_
  intro p e s m below meth c A H locs Q hx hb hml hown hts hr hlocks hmn hA hP hK hD hS ls hl hQ
  have hl : lv_has ls 4 [(0, .ref (ad 150)), (1, .ref (ad 80)), (2, .ref (ad 131))] := hl
  have fl28 := hts (.fieldLink RX8 28 "SlopeRunner$Tape" "state" "I") (List.mem_of_getElem? (i := 1) rfl)
  have inX8 : ∀ w ∈ wsX80, w ∈ v_kb_begin := (fun w h => List.mem_cons_of_mem _ (List.mem_append_right _ (List.mem_append_right _ (List.mem_append_right _ (List.mem_append_right _ (List.mem_append_right _ (List.mem_append_right _ (List.mem_append_left _ h))))))))
  have fl59 := hts (.fieldLink RX8 59 "SlopeRunner$Program" "inputs" "I") (List.mem_of_getElem? (i := 2) rfl)
  have inX6 : ∀ w ∈ wsX60, w ∈ v_kb_begin := (fun w h => List.mem_cons_of_mem _ (List.mem_append_right _ (List.mem_append_right _ (List.mem_append_right _ (List.mem_append_right _ (List.mem_append_right _ (List.mem_append_right _ (List.mem_append_right _ h))))))))
  have fl38 := hts (.fieldLink RX8 38 "SlopeRunner$Tape" "inputs" "I") (List.mem_of_getElem? (i := 3) rfl)
  have kk_1 : (1 : Int32).toInt = 1 := rfl
  have fl60 := hts (.fieldLink RX8 60 "SlopeRunner$Program" "numbers" "I") (List.mem_of_getElem? (i := 4) rfl)
  have fl41 := hts (.fieldLink RX8 41 "SlopeRunner$Tape" "firstStep" "I") (List.mem_of_getElem? (i := 5) rfl)
  have fl44 := hts (.fieldLink RX8 44 "SlopeRunner$Tape" "size" "I") (List.mem_of_getElem? (i := 6) rfl)
  have fl11 := hts (.fieldLink RX8 11 "SlopeRunner$Tape" "value" "[J") (List.mem_of_getElem? (i := 7) rfl)
  have kl_1 : (1 : Int64).toInt = 1 := rfl
  have kk_1359 : (1359 : Int32).toInt = 1359 := rfl
  refine lv_aload_n hx hb dX8_begin_0 rfl (lv_at hl 0 rfl) ?_
  have hPs : va_P D vwCl (tqw y ad σ) H := x_suP hP [0, 3, 4, 5, 6, 7] rfl
  have hDs : va_D A (tqw y ad σ) := x_suD hD [0, 3, 4, 5, 6, 7] rfl (by decide)
  refine x_callvS (b1 := fun (u : Int32 × Int32 × Int32 × Int32 × Int32 × Int32 × Int32 × Int64) => (tcw y ad (sJ (sI (sI (sI (sI (sI (sI (sI σ 156 u.1) 157 u.2.1) 158 u.2.2.1) 159 u.2.2.2.1) 160 u.2.2.2.2.1) 161 u.2.2.2.2.2.1) 162 u.2.2.2.2.2.2.1) 163 u.2.2.2.2.2.2.2))) [0, 3, 4, 5, 6, 7] (va_runV (As := []) (rest := []) ⟨hx, hb, hml, hown, hts⟩ (kb_forget l D y H.size ad σ ) (cwV 0 hts g_kb_begin_0 rfl rfl rfl (by decide +kernel) ⟨Nat.le_of_ble_eq_true rfl, Nat.le_of_ble_eq_true rfl⟩) (x_preV (q := (RX8, TX8, 13)) hK hPs hDs (ci := 7) (q0 := 0) rfl tqw_o0) rfl rfl hl.1 rfl (lv_room (Nat.le_of_ble_eq_true rfl)) dX8_begin_1 ⟨Nat.le_of_ble_eq_true rfl, Nat.le_of_ble_eq_true rfl⟩) hP hD hS hA rfl (fun _ => rfl) (fun _ => rfl) (fun _ => rfl) (fun u H locs hw hP hD hS => ?_)
  obtain ⟨n_1, n_2, n_3, n_4, n_5, n_6, n_7, j_8⟩ := u
  try dsimp only at hw
  have hP : va_P D vwCl (tcw y ad (sJ (sI (sI (sI (sI (sI (sI (sI σ 156 n_1) 157 n_2) 158 n_3) 159 n_4) 160 n_5) 161 n_6) 162 n_7) 163 j_8)) H := hP
  have hD : va_D A (tcw y ad (sJ (sI (sI (sI (sI (sI (sI (sI σ 156 n_1) 157 n_2) 158 n_3) 159 n_4) 160 n_5) 161 n_6) 162 n_7) 163 j_8)) := hD
  replace hw : n_2.toInt = 0 ∧ n_4.toInt = 0 ∧ n_6.toInt = 0 ∧ n_3.toInt = 0 := hw
  obtain ⟨hf1, hf2, hf3, hf4⟩ := hw
  refine lv_aload_n hx hb dX8_begin_4 rfl (lv_at hl 0 rfl) ?_
  refine lv_bipush (v := (-2)) hx hb dX8_begin_5 (by decide) ?_
  refine va_put (D := D) (ci := 7) (v := .int (-2)) (ty := .int) (C := RX8) (T := TX8) (N := 13) hx hb hts inX8 tyX8 tyX8_ok nmX8 hown hK hP hD hS 0 tcw_o0 rfl 5 (by decide) fl28 (fun _ h9 => h9) rfl (by decide +kernel) rfl rfl (Nat.le_of_ble_eq_true rfl) dX8_begin_7 (fun H locs hP hD hS => ?_)
  have hP : va_P D vwCl (tcw y ad (sI (sJ (sI (sI (sI (sI (sI (sI (sI σ 156 n_1) 157 n_2) 158 n_3) 159 n_4) 160 n_5) 161 n_6) 162 n_7) 163 j_8) 156 (-2))) H := x_trP hP tcw_p0_5
  have hD : va_D A (tcw y ad (sI (sJ (sI (sI (sI (sI (sI (sI (sI σ 156 n_1) 157 n_2) 158 n_3) 159 n_4) 160 n_5) 161 n_6) 162 n_7) 163 j_8) 156 (-2))) := x_trD hD tcw_p0_5
  refine lv_aload_n hx hb dX8_begin_10 rfl (lv_at hl 0 rfl) ?_
  refine lv_aload_n hx hb dX8_begin_11 rfl (lv_at hl 1 rfl) ?_
  refine va_get (D := D) (ci := 5) (v := .int (σ.1 81)) (C := RX6) (T := TX6) (N := 13) hx hb hts inX6 hown hK hP 1 tcw_o1 rfl 0 (by decide) fl59 (fun _ h9 => h9) rfl dX8_begin_12 ?_
  refine va_put (D := D) (ci := 7) (v := .int (σ.1 81)) (ty := .int) (C := RX8) (T := TX8) (N := 13) hx hb hts inX8 tyX8 tyX8_ok nmX8 hown hK hP hD hS 0 tcw_o0 rfl 6 (by decide) fl38 (fun _ h9 => h9) rfl (by decide +kernel) rfl rfl (Nat.le_of_ble_eq_true rfl) dX8_begin_15 (fun H locs hP hD hS => ?_)
  have hP : va_P D vwCl (tcw y ad (sI (sI (sJ (sI (sI (sI (sI (sI (sI (sI σ 156 n_1) 157 n_2) 158 n_3) 159 n_4) 160 n_5) 161 n_6) 162 n_7) 163 j_8) 156 (-2)) 157 (σ.1 81))) H := x_trP hP tcw_p0_6
  have hD : va_D A (tcw y ad (sI (sI (sJ (sI (sI (sI (sI (sI (sI (sI σ 156 n_1) 157 n_2) 158 n_3) 159 n_4) 160 n_5) 161 n_6) 162 n_7) 163 j_8) 156 (-2)) 157 (σ.1 81))) := x_trD hD tcw_p0_6
  refine lv_aload_n hx hb dX8_begin_18 rfl (lv_at hl 0 rfl) ?_
  refine lv_aload_n hx hb dX8_begin_19 rfl (lv_at hl 0 rfl) ?_
  refine va_get (D := D) (ci := 7) (v := .int (σ.1 81)) (C := RX8) (T := TX8) (N := 13) hx hb hts inX8 hown hK hP 0 tcw_o0 rfl 6 (by decide) fl38 (fun _ h9 => h9) rfl dX8_begin_20 ?_
  refine lv_iconst (v := 1) hx hb dX8_begin_23 (by decide) ?_
  refine lv_iadd hx hb dX8_begin_24 ?_
  refine lv_topi (fun i_9 ei_9 => ?_)
  have vi_9 : i_9.toInt = (σ.1 81).toInt + 1 := by have h9 := x_add ei_9 (by omega) (by omega); omega
  refine lv_aload_n hx hb dX8_begin_25 rfl (lv_at hl 1 rfl) ?_
  refine va_get (D := D) (ci := 5) (v := .int (σ.1 85)) (C := RX6) (T := TX6) (N := 13) hx hb hts inX6 hown hK hP 1 tcw_o1 rfl 4 (by decide) fl60 (fun _ h9 => h9) rfl dX8_begin_26 ?_
  refine lv_iadd hx hb dX8_begin_29 ?_
  refine lv_topi (fun i_10 ei_10 => ?_)
  have vi_10 : i_10.toInt = i_9.toInt + (σ.1 85).toInt := by have h9 := x_add ei_10 (by omega) (by omega); omega
  refine va_put (D := D) (ci := 7) (v := .int i_10) (ty := .int) (C := RX8) (T := TX8) (N := 13) hx hb hts inX8 tyX8 tyX8_ok nmX8 hown hK hP hD hS 0 tcw_o0 rfl 7 (by decide) fl41 (fun _ h9 => h9) rfl (by decide +kernel) rfl rfl (Nat.le_of_ble_eq_true rfl) dX8_begin_30 (fun H locs hP hD hS => ?_)
  have hP : va_P D vwCl (tcw y ad (sI (sI (sI (sJ (sI (sI (sI (sI (sI (sI (sI σ 156 n_1) 157 n_2) 158 n_3) 159 n_4) 160 n_5) 161 n_6) 162 n_7) 163 j_8) 156 (-2)) 157 (σ.1 81)) 158 i_10)) H := x_trP hP tcw_p0_7
  have hD : va_D A (tcw y ad (sI (sI (sI (sJ (sI (sI (sI (sI (sI (sI (sI σ 156 n_1) 157 n_2) 158 n_3) 159 n_4) 160 n_5) 161 n_6) 162 n_7) 163 j_8) 156 (-2)) 157 (σ.1 81)) 158 i_10)) := x_trD hD tcw_p0_7
  refine lv_aload_n hx hb dX8_begin_33 rfl (lv_at hl 0 rfl) ?_
  refine lv_aload_n hx hb dX8_begin_34 rfl (lv_at hl 0 rfl) ?_
  refine va_get (D := D) (ci := 7) (v := .int i_10) (C := RX8) (T := TX8) (N := 13) hx hb hts inX8 hown hK hP 0 tcw_o0 rfl 7 (by decide) fl41 (fun _ h9 => h9) rfl dX8_begin_35 ?_
  refine va_put (D := D) (ci := 7) (v := .int i_10) (ty := .int) (C := RX8) (T := TX8) (N := 13) hx hb hts inX8 tyX8 tyX8_ok nmX8 hown hK hP hD hS 0 tcw_o0 rfl 8 (by decide) fl44 (fun _ h9 => h9) rfl (by decide +kernel) rfl rfl (Nat.le_of_ble_eq_true rfl) dX8_begin_38 (fun H locs hP hD hS => ?_)
  have hP : va_P D vwCl (tcw y ad (sI (sI (sI (sI (sJ (sI (sI (sI (sI (sI (sI (sI σ 156 n_1) 157 n_2) 158 n_3) 159 n_4) 160 n_5) 161 n_6) 162 n_7) 163 j_8) 156 (-2)) 157 (σ.1 81)) 158 i_10) 159 i_10)) H := x_trP hP tcw_p0_8
  have hD : va_D A (tcw y ad (sI (sI (sI (sI (sJ (sI (sI (sI (sI (sI (sI (sI σ 156 n_1) 157 n_2) 158 n_3) 159 n_4) 160 n_5) 161 n_6) 162 n_7) 163 j_8) 156 (-2)) 157 (σ.1 81)) 158 i_10) 159 i_10)) := x_trD hD tcw_p0_8
  refine lv_iconst (v := 0) hx hb dX8_begin_41 (by decide) ?_
  refine lv_istore_n (lv' := [(3, .int 0), (0, .ref (ad 150)), (1, .ref (ad 80)), (2, .ref (ad 131))]) hx hb dX8_begin_42 rfl hl (by decide) rfl (fun ls hl => ?_)
  have l00 : (0 : Int32).toInt = 0 := rfl
  have hP : va_P D vwCl (tcw y ad (tJ (sI (sI (sI (sI (sJ (sI (sI (sI σ 160 n_5) 161 n_6) 162 n_7) 163 j_8) 156 (-2)) 157 (σ.1 81)) 158 i_10) 159 i_10) 151 (σ.2.2.2 151))) H := hP
  have hD : va_D A (tcw y ad (tJ (sI (sI (sI (sI (sJ (sI (sI (sI σ 160 n_5) 161 n_6) 162 n_7) 163 j_8) 156 (-2)) 157 (σ.1 81)) 158 i_10) 159 i_10) 151 (σ.2.2.2 151))) := hD
  have loop : ∀ (fu : Nat) (i : Int32) (fv : Nat → Int64) (H : Heap) (locs : List Loc) (ls : Array Slot), (0 ≤ i.toInt) → (i.toInt ≤ 8) → (8 - i.toInt < (fu : Int)) → va_P D vwCl (tcw y ad (tJ (sI (sI (sI (sI (sJ (sI (sI (sI σ 160 n_5) 161 n_6) 162 n_7) 163 j_8) 156 (-2)) 157 (σ.1 81)) 158 i_10) 159 i_10) 151 fv)) H → va_D A (tcw y ad (tJ (sI (sI (sI (sI (sJ (sI (sI (sI σ 160 n_5) 161 n_6) 162 n_7) 163 j_8) 156 (-2)) 157 (σ.1 81)) 158 i_10) 159 i_10) 151 fv)) → va_S A s.heap H locs → lv_has ls 4 [(3, .int i), (2, .ref (ad 131)), (1, .ref (ad 80)), (0, .ref (ad 150))] → W p l e ({ frames := 2, cells := 0, slots := 0, locals := 69 } : Room) s m ([.ref (ad 150), .ref (ad 80), .ref (ad 131)] : List Value).toArray below meth c H locs 0 0 Q (F0 m 43 ls []) := by
    intro fu
    induction fu with
    | zero =>
      intro i fv H locs ls hi0 hi1 hm
      exact absurd hm (by omega)
    | succ fu ih_loop =>
      intro i fv H locs ls hi0 hi1 hm hP hD hS hl
      refine lv_iload_n hx hb dX8_begin_43 rfl (lv_at hl 0 rfl) ?_
      refine lv_aload_n hx hb dX8_begin_44 rfl (lv_at hl 3 rfl) ?_
      refine va_get (D := D) (ci := 7) (v := .int (σ.1 81)) (C := RX8) (T := TX8) (N := 13) hx hb hts inX8 hown hK hP 0 tcw_o0 rfl 6 (by decide) fl38 (fun _ h9 => h9) rfl dX8_begin_45 ?_
      refine lv_icmp_ge (tgt := 72) hx hb dX8_begin_48 (by decide) (fun c_11 => ?_) (fun c_11 => ?_)
      · have kc_11 : i.toInt ≥ (σ.1 81).toInt := by have h9 := c_11; simp only [ge_iff_le, gt_iff_lt, x_lt, x_le, x_eq, ne_eq, Int32.not_lt, Int32.not_le] at h9; omega
        refine lv_aload_n hx hb dX8_begin_72 rfl (lv_at hl 3 rfl) ?_
        refine va_get (D := D) (ci := 7) (v := .ref (ad 151)) (C := RX8) (T := TX8) (N := 13) hx hb hts inX8 hown hK hP 0 tcw_o0 rfl 0 (by decide) fl11 (fun _ h9 => h9) rfl dX8_begin_73 ?_
        refine lv_aload_n hx hb dX8_begin_76 rfl (lv_at hl 3 rfl) ?_
        have hPs : va_P D vwCl (tqw y ad (tJ (sI (sI (sI (sI (sJ (sI (sI (sI σ 160 n_5) 161 n_6) 162 n_7) 163 j_8) 156 (-2)) 157 (σ.1 81)) 158 i_10) 159 i_10) 151 fv)) H := x_suP hP [0, 3, 4, 5, 6, 7] rfl
        have hDs : va_D A (tqw y ad (tJ (sI (sI (sI (sI (sJ (sI (sI (sI σ 160 n_5) 161 n_6) 162 n_7) 163 j_8) 156 (-2)) 157 (σ.1 81)) 158 i_10) 159 i_10) 151 fv)) := x_suD hD [0, 3, 4, 5, 6, 7] rfl (by decide)
        refine x_calliS (b1 := fun (u : Unit) => (tcw y ad (tJ (sI (sI (sI (sI (sJ (sI (sI (sI σ 160 n_5) 161 n_6) 162 n_7) 163 j_8) 156 (-2)) 157 (σ.1 81)) 158 i_10) 159 i_10) 151 fv))) [0, 3, 4, 5, 6, 7] (va_runV (As := []) (rest := [.ref (ad 151)]) ⟨hx, hb, hml, hown, hts⟩ (kb_zeroAt l D y H.size ad (tJ (sI (sI (sI (sI (sJ (sI (sI (sI σ 160 n_5) 161 n_6) 162 n_7) 163 j_8) 156 (-2)) 157 (σ.1 81)) 158 i_10) 159 i_10) 151 fv) ) (cwV 0 hts g_kb_begin_1 rfl rfl rfl (by decide +kernel) ⟨Nat.le_of_ble_eq_true rfl, Nat.le_of_ble_eq_true rfl⟩) (x_preV (q := (RX8, TX8, 13)) hK hPs hDs (ci := 7) (q0 := 0) rfl tqw_o0) rfl rfl hl.1 rfl (lv_room (Nat.le_of_ble_eq_true rfl)) dX8_begin_77 ⟨Nat.le_of_ble_eq_true rfl, Nat.le_of_ble_eq_true rfl⟩) hP hD hS hA rfl (fun _ => rfl) (fun _ => rfl) (fun _ => rfl) (fun r_12 u H locs hw hP hD hS => ?_)
        try dsimp only at hw
        have hP : va_P D vwCl (tcw y ad (tJ (sI (sI (sI (sI (sJ (sI (sI (sI σ 160 n_5) 161 n_6) 162 n_7) 163 j_8) 156 (-2)) 157 (σ.1 81)) 158 i_10) 159 i_10) 151 fv)) H := hP
        have hD : va_D A (tcw y ad (tJ (sI (sI (sI (sI (sJ (sI (sI (sI σ 160 n_5) 161 n_6) 162 n_7) 163 j_8) 156 (-2)) 157 (σ.1 81)) 158 i_10) 159 i_10) 151 fv)) := hD
        replace hw : r_12 = (σ.1 81) := hw
        have hwz : r_12.toInt = (σ.1 81).toInt := by rw [hw]
        refine lv_lconst (v := 1) hx hb dX8_begin_80 (by decide) ?_
        refine va_last hx hb hK hP hD hS 3 3 tcw_a3 rfl (x_in (by omega) (by omega)) dX8_begin_81 (fun H locs hP hD hS => ?_)
        obtain ⟨f_13, ef_13⟩ : ∃ z9 : Nat → Int64, z9 = (vp_updL fv (Int32.toNatClampNeg r_12) 1) := ⟨_, rfl⟩
        have hP : va_P D vwCl (tcw y ad (tJ (tJ (sI (sI (sI (sI (sJ (sI (sI (sI σ 160 n_5) 161 n_6) 162 n_7) 163 j_8) 156 (-2)) 157 (σ.1 81)) 158 i_10) 159 i_10) 151 fv) 151 f_13)) H := by rw [ef_13]; exact x_trP hP tcw_s3
        have hD : va_D A (tcw y ad (tJ (tJ (sI (sI (sI (sI (sJ (sI (sI (sI σ 160 n_5) 161 n_6) 162 n_7) 163 j_8) 156 (-2)) 157 (σ.1 81)) 158 i_10) 159 i_10) 151 fv) 151 f_13)) := by rw [ef_13]; exact x_trD hD tcw_s3
        refine lv_iconst (v := 0) hx hb dX8_begin_82 (by decide) ?_
        refine lv_istore_n (lv' := [(3, .int 0), (2, .ref (ad 131)), (1, .ref (ad 80)), (0, .ref (ad 150))]) hx hb dX8_begin_83 rfl hl (by decide) rfl (fun ls hl => ?_)
        have l00 : (0 : Int32).toInt = 0 := rfl
        have hP : va_P D vwCl (tcw y ad (tJ (sI (sI (sI (sI (sJ (sI (sI (sI σ 160 n_5) 161 n_6) 162 n_7) 163 j_8) 156 (-2)) 157 (σ.1 81)) 158 i_10) 159 i_10) 151 f_13)) H := hP
        have hD : va_D A (tcw y ad (tJ (sI (sI (sI (sI (sJ (sI (sI (sI σ 160 n_5) 161 n_6) 162 n_7) 163 j_8) 156 (-2)) 157 (σ.1 81)) 158 i_10) 159 i_10) 151 f_13)) := hD
        have loop2 : ∀ (fu : Nat) (j : Int32) (gv : Nat → Int64) (H : Heap) (locs : List Loc) (ls : Array Slot), (0 ≤ j.toInt) → (j.toInt ≤ (σ.1 85).toInt) → ((σ.1 85).toInt - j.toInt < (fu : Int)) → va_P D vwCl (tcw y ad (tJ (sI (sI (sI (sI (sJ (sI (sI (sI σ 160 n_5) 161 n_6) 162 n_7) 163 j_8) 156 (-2)) 157 (σ.1 81)) 158 i_10) 159 i_10) 151 gv)) H → va_D A (tcw y ad (tJ (sI (sI (sI (sI (sJ (sI (sI (sI σ 160 n_5) 161 n_6) 162 n_7) 163 j_8) 156 (-2)) 157 (σ.1 81)) 158 i_10) 159 i_10) 151 gv)) → va_S A s.heap H locs → lv_has ls 4 [(3, .int j), (2, .ref (ad 131)), (1, .ref (ad 80)), (0, .ref (ad 150))] → W p l e ({ frames := 2, cells := 0, slots := 0, locals := 69 } : Room) s m ([.ref (ad 150), .ref (ad 80), .ref (ad 131)] : List Value).toArray below meth c H locs 0 0 Q (F0 m 84 ls []) := by
          intro fu
          induction fu with
          | zero =>
            intro j gv H locs ls hj0 hj1 hm
            exact absurd hm (by omega)
          | succ fu ih_loop2 =>
            intro j gv H locs ls hj0 hj1 hm hP hD hS hl
            refine lv_iload_n hx hb dX8_begin_84 rfl (lv_at hl 0 rfl) ?_
            refine lv_aload_n hx hb dX8_begin_85 rfl (lv_at hl 2 rfl) ?_
            refine va_get (D := D) (ci := 5) (v := .int (σ.1 85)) (C := RX6) (T := TX6) (N := 13) hx hb hts inX6 hown hK hP 1 tcw_o1 rfl 4 (by decide) fl60 (fun _ h9 => h9) rfl dX8_begin_86 ?_
            refine lv_icmp_ge (tgt := 118) hx hb dX8_begin_89 (by decide) (fun c_14 => ?_) (fun c_14 => ?_)
            · have kc_14 : j.toInt ≥ (σ.1 85).toInt := by have h9 := c_14; simp only [ge_iff_le, gt_iff_lt, x_lt, x_le, x_eq, ne_eq, Int32.not_lt, Int32.not_le] at h9; omega
              have hP : va_P D vwCl (tcw y ad (tJ (sJ (sI (sI (sI (sI (sI (sI (sI σ 156 (-2)) 157 (σ.1 81)) 158 i_10) 159 i_10) 160 n_5) 161 n_6) 162 n_7) 163 j_8) 151 gv)) H := hP
              have hD : va_D A (tcw y ad (tJ (sJ (sI (sI (sI (sI (sI (sI (sI σ 156 (-2)) 157 (σ.1 81)) 158 i_10) 159 i_10) 160 n_5) 161 n_6) 162 n_7) 163 j_8) 151 gv)) := hD
              exact x_vretW (u := ((-2), (σ.1 81), i_10, i_10, n_5, n_6, n_7, j_8, gv)) hx hb hr hQ (by (try dsimp only); exact ⟨by omega, by omega, by omega, by omega, by omega⟩) hP hD hK hS dX8_begin_118 hlocks
            · have kc_14 : j.toInt < (σ.1 85).toInt := by have h9 := c_14; simp only [ge_iff_le, gt_iff_lt, x_lt, x_le, x_eq, ne_eq, Int32.not_lt, Int32.not_le] at h9; omega
              refine lv_aload_n hx hb dX8_begin_92 rfl (lv_at hl 3 rfl) ?_
              refine va_get (D := D) (ci := 7) (v := .ref (ad 151)) (C := RX8) (T := TX8) (N := 13) hx hb hts inX8 hown hK hP 0 tcw_o0 rfl 0 (by decide) fl11 (fun _ h9 => h9) rfl dX8_begin_93 ?_
              refine lv_aload_n hx hb dX8_begin_96 rfl (lv_at hl 3 rfl) ?_
              refine lv_iload_n hx hb dX8_begin_97 rfl (lv_at hl 0 rfl) ?_
              have hPs : va_P D vwCl (tqw y ad (tJ (sI (sI (sI (sI (sJ (sI (sI (sI σ 160 n_5) 161 n_6) 162 n_7) 163 j_8) 156 (-2)) 157 (σ.1 81)) 158 i_10) 159 i_10) 151 gv)) H := x_suP hP [0, 3, 4, 5, 6, 7] rfl
              have hDs : va_D A (tqw y ad (tJ (sI (sI (sI (sI (sJ (sI (sI (sI σ 160 n_5) 161 n_6) 162 n_7) 163 j_8) 156 (-2)) 157 (σ.1 81)) 158 i_10) 159 i_10) 151 gv)) := x_suD hD [0, 3, 4, 5, 6, 7] rfl (by decide)
              refine x_calliS (b1 := fun (u : Unit) => (tcw y ad (tJ (sI (sI (sI (sI (sJ (sI (sI (sI σ 160 n_5) 161 n_6) 162 n_7) 163 j_8) 156 (-2)) 157 (σ.1 81)) 158 i_10) 159 i_10) 151 gv))) [0, 3, 4, 5, 6, 7] (va_runV (As := [.int j]) (rest := [.ref (ad 151)]) ⟨hx, hb, hml, hown, hts⟩ (kb_numberAt l D y H.size ad (tJ (sI (sI (sI (sI (sJ (sI (sI (sI σ 160 n_5) 161 n_6) 162 n_7) 163 j_8) 156 (-2)) 157 (σ.1 81)) 158 i_10) 159 i_10) 151 gv) j (by first | omega | decide) (by first | omega | decide) (show 0 ≤ ((σ.1 81)).toInt from by first | omega | decide) (show ((σ.1 81)).toInt ≤ 8 from by first | omega | decide)) (cwV 1 hts g_kb_begin_2 rfl rfl rfl (by decide +kernel) ⟨Nat.le_of_ble_eq_true rfl, Nat.le_of_ble_eq_true rfl⟩) (x_preV (q := (RX8, TX8, 13)) hK hPs hDs (ci := 7) (q0 := 0) rfl tqw_o0) rfl rfl hl.1 rfl (lv_room (Nat.le_of_ble_eq_true rfl)) dX8_begin_98 ⟨Nat.le_of_ble_eq_true rfl, Nat.le_of_ble_eq_true rfl⟩) hP hD hS hA rfl (fun _ => rfl) (fun _ => rfl) (fun _ => rfl) (fun r_15 u H locs hw hP hD hS => ?_)
              try dsimp only at hw
              have hP : va_P D vwCl (tcw y ad (tJ (sI (sI (sI (sI (sJ (sI (sI (sI σ 160 n_5) 161 n_6) 162 n_7) 163 j_8) 156 (-2)) 157 (σ.1 81)) 158 i_10) 159 i_10) 151 gv)) H := hP
              have hD : va_D A (tcw y ad (tJ (sI (sI (sI (sI (sJ (sI (sI (sI σ 160 n_5) 161 n_6) 162 n_7) 163 j_8) 156 (-2)) 157 (σ.1 81)) 158 i_10) 159 i_10) 151 gv)) := hD
              replace hw : r_15.toInt = ((σ.1 81)).toInt + 1 + j.toInt := hw
              refine lv_aload_n hx hb dX8_begin_101 rfl (lv_at hl 2 rfl) ?_
              refine lv_iload_n hx hb dX8_begin_102 rfl (lv_at hl 0 rfl) ?_
              have hPs : va_P D vwCl (pqw y ad (tJ (sI (sI (sI (sI (sJ (sI (sI (sI σ 160 n_5) 161 n_6) 162 n_7) 163 j_8) 156 (-2)) 157 (σ.1 81)) 158 i_10) 159 i_10) 151 gv)) H := x_suP hP [1, 8, 9, 10, 11, 12, 13] rfl
              have hDs : va_D A (pqw y ad (tJ (sI (sI (sI (sI (sJ (sI (sI (sI σ 160 n_5) 161 n_6) 162 n_7) 163 j_8) 156 (-2)) 157 (σ.1 81)) 158 i_10) 159 i_10) 151 gv)) := x_suD hD [1, 8, 9, 10, 11, 12, 13] rfl (by decide)
              refine x_calliS (b1 := fun (u : Unit) => (tcw y ad (tJ (sI (sI (sI (sI (sJ (sI (sI (sI σ 160 n_5) 161 n_6) 162 n_7) 163 j_8) 156 (-2)) 157 (σ.1 81)) 158 i_10) 159 i_10) 151 gv))) [1, 8, 9, 10, 11, 12, 13] (va_runV (As := [.int j]) (rest := [.int r_15, .ref (ad 151)]) ⟨hx, hb, hml, hown, hts⟩ (p_numberAt l D y H.size ad (tJ (sI (sI (sI (sI (sJ (sI (sI (sI σ 160 n_5) 161 n_6) 162 n_7) 163 j_8) 156 (-2)) 157 (σ.1 81)) 158 i_10) 159 i_10) 151 gv) j (show 0 ≤ ((σ.1 85)).toInt from by first | omega | decide) (show ((σ.1 85)).toInt ≤ 350 from by first | omega | decide)) (cwV 1 hts g_kb_begin_3 rfl rfl rfl (by decide +kernel) ⟨Nat.le_of_ble_eq_true rfl, Nat.le_of_ble_eq_true rfl⟩) (x_preV (q := (RX6, TX6, 13)) hK hPs hDs (ci := 5) (q0 := 0) rfl pqw_o0) rfl rfl hl.1 rfl (lv_room (Nat.le_of_ble_eq_true rfl)) dX8_begin_103 ⟨Nat.le_of_ble_eq_true rfl, Nat.le_of_ble_eq_true rfl⟩) hP hD hS hA rfl (fun _ => rfl) (fun _ => rfl) (fun _ => rfl) (fun r_16 u H locs hw hP hD hS => ?_)
              try dsimp only at hw
              have hP : va_P D vwCl (tcw y ad (tJ (sI (sI (sI (sI (sJ (sI (sI (sI σ 160 n_5) 161 n_6) 162 n_7) 163 j_8) 156 (-2)) 157 (σ.1 81)) 158 i_10) 159 i_10) 151 gv)) H := hP
              have hD : va_D A (tcw y ad (tJ (sI (sI (sI (sI (sJ (sI (sI (sI σ 160 n_5) 161 n_6) 162 n_7) 163 j_8) 156 (-2)) 157 (σ.1 81)) 158 i_10) 159 i_10) 151 gv)) := hD
              refine lv_i2l hx hb dX8_begin_106 rfl ?_
              refine lv_topl (fun j_17 ej_17 => ?_)
              have vj_17 : j_17.toInt = r_16.toInt := by rw [ej_17]; exact Int32.toInt_toInt64 _
              refine lv_lconst (v := 1) hx hb dX8_begin_107 (by decide) ?_
              refine x_calllN (va_runS (As := [.long j_17, .long 1]) (rest := [.int r_15, .ref (ad 151)]) ⟨hx, hb, hml, hown, hts⟩ (k_of l D y H.size j_17 1) (va_cwS 2 hts g_kb_begin_4 rfl rfl rfl (by decide +kernel) ⟨Nat.le_of_ble_eq_true rfl, Nat.le_of_ble_eq_true rfl⟩) (x_preS hK (x_nilP D H) (x_nilD A)) rfl rfl hl.1 rfl (lv_room (Nat.le_of_ble_eq_true rfl)) dX8_begin_108 ⟨Nat.le_of_ble_eq_true rfl, Nat.le_of_ble_eq_true rfl⟩) hP hD hS hA (fun r_18 u H locs hw hP hD hS => ?_)
              try dsimp only at hw
              refine va_last hx hb hK hP hD hS 3 3 tcw_a3 rfl (x_in (by omega) (by omega)) dX8_begin_111 (fun H locs hP hD hS => ?_)
              obtain ⟨f_19, ef_19⟩ : ∃ z9 : Nat → Int64, z9 = (vp_updL gv (Int32.toNatClampNeg r_15) r_18) := ⟨_, rfl⟩
              have hP : va_P D vwCl (tcw y ad (tJ (tJ (sI (sI (sI (sI (sJ (sI (sI (sI σ 160 n_5) 161 n_6) 162 n_7) 163 j_8) 156 (-2)) 157 (σ.1 81)) 158 i_10) 159 i_10) 151 gv) 151 f_19)) H := by rw [ef_19]; exact x_trP hP tcw_s3
              have hD : va_D A (tcw y ad (tJ (tJ (sI (sI (sI (sI (sJ (sI (sI (sI σ 160 n_5) 161 n_6) 162 n_7) 163 j_8) 156 (-2)) 157 (σ.1 81)) 158 i_10) 159 i_10) 151 gv) 151 f_19)) := by rw [ef_19]; exact x_trD hD tcw_s3
              obtain ⟨i_20, ei_20⟩ : ∃ z9 : Int32, z9 = j + 1 := ⟨_, rfl⟩
              have vi_20 : i_20.toInt = j.toInt + 1 := by have h9 := x_add ei_20 (by omega) (by omega); omega
              refine lv_iinc (v := i_20) (lv' := [(3, .int i_20), (2, .ref (ad 131)), (1, .ref (ad 80)), (0, .ref (ad 150))]) hx hb dX8_begin_112 hl (k := 0) rfl (by rw [ei_20]; rfl) (by decide) rfl (fun ls hl => ?_)
              refine lv_goto (tgt := 84) hx hb dX8_begin_115 (by decide) ?_
              have hP : va_P D vwCl (tcw y ad (tJ (sI (sI (sI (sI (sJ (sI (sI (sI σ 160 n_5) 161 n_6) 162 n_7) 163 j_8) 156 (-2)) 157 (σ.1 81)) 158 i_10) 159 i_10) 151 f_19)) H := hP
              have hD : va_D A (tcw y ad (tJ (sI (sI (sI (sI (sJ (sI (sI (sI σ 160 n_5) 161 n_6) 162 n_7) 163 j_8) 156 (-2)) 157 (σ.1 81)) 158 i_10) 159 i_10) 151 f_19)) := hD
              exact ih_loop2 i_20 f_19 H locs ls (by omega) (by omega) (by omega) hP hD hS (lv_sub hl [0, 1, 2, 3] rfl)
        exact loop2 351 0 f_13 H locs ls (by decide) (by omega) (by omega) hP hD hS (lv_sub hl [0, 1, 2, 3] rfl)
      · have kc_11 : i.toInt < (σ.1 81).toInt := by have h9 := c_11; simp only [ge_iff_le, gt_iff_lt, x_lt, x_le, x_eq, ne_eq, Int32.not_lt, Int32.not_le] at h9; omega
        refine lv_iload_n hx hb dX8_begin_51 rfl (lv_at hl 0 rfl) ?_
        refine lv_aload_n hx hb dX8_begin_52 rfl (lv_at hl 1 rfl) ?_
        refine va_alen hx hb hK hP 14 3 tcw_a14 rfl (v := 1359) rfl dX8_begin_53 ?_
        refine lv_icmp_ge (tgt := 72) hx hb dX8_begin_54 (by decide) (fun c_21 => ?_) (fun c_21 => ?_)
        · have kc_21 : i.toInt ≥ 1359 := by have h9 := c_21; simp only [ge_iff_le, gt_iff_lt, x_lt, x_le, x_eq, ne_eq, Int32.not_lt, Int32.not_le] at h9; simp only [Int32.reduceToInt] at h9; omega
          refine lv_aload_n hx hb dX8_begin_72 rfl (lv_at hl 3 rfl) ?_
          refine va_get (D := D) (ci := 7) (v := .ref (ad 151)) (C := RX8) (T := TX8) (N := 13) hx hb hts inX8 hown hK hP 0 tcw_o0 rfl 0 (by decide) fl11 (fun _ h9 => h9) rfl dX8_begin_73 ?_
          refine lv_aload_n hx hb dX8_begin_76 rfl (lv_at hl 3 rfl) ?_
          have hPs : va_P D vwCl (tqw y ad (tJ (sI (sI (sI (sI (sJ (sI (sI (sI σ 160 n_5) 161 n_6) 162 n_7) 163 j_8) 156 (-2)) 157 (σ.1 81)) 158 i_10) 159 i_10) 151 fv)) H := x_suP hP [0, 3, 4, 5, 6, 7] rfl
          have hDs : va_D A (tqw y ad (tJ (sI (sI (sI (sI (sJ (sI (sI (sI σ 160 n_5) 161 n_6) 162 n_7) 163 j_8) 156 (-2)) 157 (σ.1 81)) 158 i_10) 159 i_10) 151 fv)) := x_suD hD [0, 3, 4, 5, 6, 7] rfl (by decide)
          refine x_calliS (b1 := fun (u : Unit) => (tcw y ad (tJ (sI (sI (sI (sI (sJ (sI (sI (sI σ 160 n_5) 161 n_6) 162 n_7) 163 j_8) 156 (-2)) 157 (σ.1 81)) 158 i_10) 159 i_10) 151 fv))) [0, 3, 4, 5, 6, 7] (va_runV (As := []) (rest := [.ref (ad 151)]) ⟨hx, hb, hml, hown, hts⟩ (kb_zeroAt l D y H.size ad (tJ (sI (sI (sI (sI (sJ (sI (sI (sI σ 160 n_5) 161 n_6) 162 n_7) 163 j_8) 156 (-2)) 157 (σ.1 81)) 158 i_10) 159 i_10) 151 fv) ) (cwV 0 hts g_kb_begin_1 rfl rfl rfl (by decide +kernel) ⟨Nat.le_of_ble_eq_true rfl, Nat.le_of_ble_eq_true rfl⟩) (x_preV (q := (RX8, TX8, 13)) hK hPs hDs (ci := 7) (q0 := 0) rfl tqw_o0) rfl rfl hl.1 rfl (lv_room (Nat.le_of_ble_eq_true rfl)) dX8_begin_77 ⟨Nat.le_of_ble_eq_true rfl, Nat.le_of_ble_eq_true rfl⟩) hP hD hS hA rfl (fun _ => rfl) (fun _ => rfl) (fun _ => rfl) (fun r_22 u H locs hw hP hD hS => ?_)
          try dsimp only at hw
          have hP : va_P D vwCl (tcw y ad (tJ (sI (sI (sI (sI (sJ (sI (sI (sI σ 160 n_5) 161 n_6) 162 n_7) 163 j_8) 156 (-2)) 157 (σ.1 81)) 158 i_10) 159 i_10) 151 fv)) H := hP
          have hD : va_D A (tcw y ad (tJ (sI (sI (sI (sI (sJ (sI (sI (sI σ 160 n_5) 161 n_6) 162 n_7) 163 j_8) 156 (-2)) 157 (σ.1 81)) 158 i_10) 159 i_10) 151 fv)) := hD
          replace hw : r_22 = (σ.1 81) := hw
          have hwz : r_22.toInt = (σ.1 81).toInt := by rw [hw]
          refine lv_lconst (v := 1) hx hb dX8_begin_80 (by decide) ?_
          refine va_last hx hb hK hP hD hS 3 3 tcw_a3 rfl (x_in (by omega) (by omega)) dX8_begin_81 (fun H locs hP hD hS => ?_)
          obtain ⟨f_23, ef_23⟩ : ∃ z9 : Nat → Int64, z9 = (vp_updL fv (Int32.toNatClampNeg r_22) 1) := ⟨_, rfl⟩
          have hP : va_P D vwCl (tcw y ad (tJ (tJ (sI (sI (sI (sI (sJ (sI (sI (sI σ 160 n_5) 161 n_6) 162 n_7) 163 j_8) 156 (-2)) 157 (σ.1 81)) 158 i_10) 159 i_10) 151 fv) 151 f_23)) H := by rw [ef_23]; exact x_trP hP tcw_s3
          have hD : va_D A (tcw y ad (tJ (tJ (sI (sI (sI (sI (sJ (sI (sI (sI σ 160 n_5) 161 n_6) 162 n_7) 163 j_8) 156 (-2)) 157 (σ.1 81)) 158 i_10) 159 i_10) 151 fv) 151 f_23)) := by rw [ef_23]; exact x_trD hD tcw_s3
          refine lv_iconst (v := 0) hx hb dX8_begin_82 (by decide) ?_
          refine lv_istore_n (lv' := [(3, .int 0), (2, .ref (ad 131)), (1, .ref (ad 80)), (0, .ref (ad 150))]) hx hb dX8_begin_83 rfl hl (by decide) rfl (fun ls hl => ?_)
          have hP : va_P D vwCl (tcw y ad (tJ (sI (sI (sI (sI (sJ (sI (sI (sI σ 160 n_5) 161 n_6) 162 n_7) 163 j_8) 156 (-2)) 157 (σ.1 81)) 158 i_10) 159 i_10) 151 f_23)) H := hP
          have hD : va_D A (tcw y ad (tJ (sI (sI (sI (sI (sJ (sI (sI (sI σ 160 n_5) 161 n_6) 162 n_7) 163 j_8) 156 (-2)) 157 (σ.1 81)) 158 i_10) 159 i_10) 151 f_23)) := hD
          have loop2 : ∀ (fu : Nat) (j : Int32) (gv : Nat → Int64) (H : Heap) (locs : List Loc) (ls : Array Slot), (0 ≤ j.toInt) → (j.toInt ≤ (σ.1 85).toInt) → ((σ.1 85).toInt - j.toInt < (fu : Int)) → va_P D vwCl (tcw y ad (tJ (sI (sI (sI (sI (sJ (sI (sI (sI σ 160 n_5) 161 n_6) 162 n_7) 163 j_8) 156 (-2)) 157 (σ.1 81)) 158 i_10) 159 i_10) 151 gv)) H → va_D A (tcw y ad (tJ (sI (sI (sI (sI (sJ (sI (sI (sI σ 160 n_5) 161 n_6) 162 n_7) 163 j_8) 156 (-2)) 157 (σ.1 81)) 158 i_10) 159 i_10) 151 gv)) → va_S A s.heap H locs → lv_has ls 4 [(3, .int j), (2, .ref (ad 131)), (1, .ref (ad 80)), (0, .ref (ad 150))] → W p l e ({ frames := 2, cells := 0, slots := 0, locals := 69 } : Room) s m ([.ref (ad 150), .ref (ad 80), .ref (ad 131)] : List Value).toArray below meth c H locs 0 0 Q (F0 m 84 ls []) := by
            intro fu
            induction fu with
            | zero =>
              intro j gv H locs ls hj0 hj1 hm
              exact absurd hm (by omega)
            | succ fu ih_loop2 =>
              intro j gv H locs ls hj0 hj1 hm hP hD hS hl
              refine lv_iload_n hx hb dX8_begin_84 rfl (lv_at hl 0 rfl) ?_
              refine lv_aload_n hx hb dX8_begin_85 rfl (lv_at hl 2 rfl) ?_
              refine va_get (D := D) (ci := 5) (v := .int (σ.1 85)) (C := RX6) (T := TX6) (N := 13) hx hb hts inX6 hown hK hP 1 tcw_o1 rfl 4 (by decide) fl60 (fun _ h9 => h9) rfl dX8_begin_86 ?_
              refine lv_icmp_ge (tgt := 118) hx hb dX8_begin_89 (by decide) (fun c_24 => ?_) (fun c_24 => ?_)
              · have kc_24 : j.toInt ≥ (σ.1 85).toInt := by have h9 := c_24; simp only [ge_iff_le, gt_iff_lt, x_lt, x_le, x_eq, ne_eq, Int32.not_lt, Int32.not_le] at h9; omega
                have hP : va_P D vwCl (tcw y ad (tJ (sJ (sI (sI (sI (sI (sI (sI (sI σ 156 (-2)) 157 (σ.1 81)) 158 i_10) 159 i_10) 160 n_5) 161 n_6) 162 n_7) 163 j_8) 151 gv)) H := hP
                have hD : va_D A (tcw y ad (tJ (sJ (sI (sI (sI (sI (sI (sI (sI σ 156 (-2)) 157 (σ.1 81)) 158 i_10) 159 i_10) 160 n_5) 161 n_6) 162 n_7) 163 j_8) 151 gv)) := hD
                exact x_vretW (u := ((-2), (σ.1 81), i_10, i_10, n_5, n_6, n_7, j_8, gv)) hx hb hr hQ (by (try dsimp only); exact ⟨by omega, by omega, by omega, by omega, by omega⟩) hP hD hK hS dX8_begin_118 hlocks
              · have kc_24 : j.toInt < (σ.1 85).toInt := by have h9 := c_24; simp only [ge_iff_le, gt_iff_lt, x_lt, x_le, x_eq, ne_eq, Int32.not_lt, Int32.not_le] at h9; omega
                refine lv_aload_n hx hb dX8_begin_92 rfl (lv_at hl 3 rfl) ?_
                refine va_get (D := D) (ci := 7) (v := .ref (ad 151)) (C := RX8) (T := TX8) (N := 13) hx hb hts inX8 hown hK hP 0 tcw_o0 rfl 0 (by decide) fl11 (fun _ h9 => h9) rfl dX8_begin_93 ?_
                refine lv_aload_n hx hb dX8_begin_96 rfl (lv_at hl 3 rfl) ?_
                refine lv_iload_n hx hb dX8_begin_97 rfl (lv_at hl 0 rfl) ?_
                have hPs : va_P D vwCl (tqw y ad (tJ (sI (sI (sI (sI (sJ (sI (sI (sI σ 160 n_5) 161 n_6) 162 n_7) 163 j_8) 156 (-2)) 157 (σ.1 81)) 158 i_10) 159 i_10) 151 gv)) H := x_suP hP [0, 3, 4, 5, 6, 7] rfl
                have hDs : va_D A (tqw y ad (tJ (sI (sI (sI (sI (sJ (sI (sI (sI σ 160 n_5) 161 n_6) 162 n_7) 163 j_8) 156 (-2)) 157 (σ.1 81)) 158 i_10) 159 i_10) 151 gv)) := x_suD hD [0, 3, 4, 5, 6, 7] rfl (by decide)
                refine x_calliS (b1 := fun (u : Unit) => (tcw y ad (tJ (sI (sI (sI (sI (sJ (sI (sI (sI σ 160 n_5) 161 n_6) 162 n_7) 163 j_8) 156 (-2)) 157 (σ.1 81)) 158 i_10) 159 i_10) 151 gv))) [0, 3, 4, 5, 6, 7] (va_runV (As := [.int j]) (rest := [.ref (ad 151)]) ⟨hx, hb, hml, hown, hts⟩ (kb_numberAt l D y H.size ad (tJ (sI (sI (sI (sI (sJ (sI (sI (sI σ 160 n_5) 161 n_6) 162 n_7) 163 j_8) 156 (-2)) 157 (σ.1 81)) 158 i_10) 159 i_10) 151 gv) j (by first | omega | decide) (by first | omega | decide) (show 0 ≤ ((σ.1 81)).toInt from by first | omega | decide) (show ((σ.1 81)).toInt ≤ 8 from by first | omega | decide)) (cwV 1 hts g_kb_begin_2 rfl rfl rfl (by decide +kernel) ⟨Nat.le_of_ble_eq_true rfl, Nat.le_of_ble_eq_true rfl⟩) (x_preV (q := (RX8, TX8, 13)) hK hPs hDs (ci := 7) (q0 := 0) rfl tqw_o0) rfl rfl hl.1 rfl (lv_room (Nat.le_of_ble_eq_true rfl)) dX8_begin_98 ⟨Nat.le_of_ble_eq_true rfl, Nat.le_of_ble_eq_true rfl⟩) hP hD hS hA rfl (fun _ => rfl) (fun _ => rfl) (fun _ => rfl) (fun r_25 u H locs hw hP hD hS => ?_)
                try dsimp only at hw
                have hP : va_P D vwCl (tcw y ad (tJ (sI (sI (sI (sI (sJ (sI (sI (sI σ 160 n_5) 161 n_6) 162 n_7) 163 j_8) 156 (-2)) 157 (σ.1 81)) 158 i_10) 159 i_10) 151 gv)) H := hP
                have hD : va_D A (tcw y ad (tJ (sI (sI (sI (sI (sJ (sI (sI (sI σ 160 n_5) 161 n_6) 162 n_7) 163 j_8) 156 (-2)) 157 (σ.1 81)) 158 i_10) 159 i_10) 151 gv)) := hD
                replace hw : r_25.toInt = ((σ.1 81)).toInt + 1 + j.toInt := hw
                refine lv_aload_n hx hb dX8_begin_101 rfl (lv_at hl 2 rfl) ?_
                refine lv_iload_n hx hb dX8_begin_102 rfl (lv_at hl 0 rfl) ?_
                have hPs : va_P D vwCl (pqw y ad (tJ (sI (sI (sI (sI (sJ (sI (sI (sI σ 160 n_5) 161 n_6) 162 n_7) 163 j_8) 156 (-2)) 157 (σ.1 81)) 158 i_10) 159 i_10) 151 gv)) H := x_suP hP [1, 8, 9, 10, 11, 12, 13] rfl
                have hDs : va_D A (pqw y ad (tJ (sI (sI (sI (sI (sJ (sI (sI (sI σ 160 n_5) 161 n_6) 162 n_7) 163 j_8) 156 (-2)) 157 (σ.1 81)) 158 i_10) 159 i_10) 151 gv)) := x_suD hD [1, 8, 9, 10, 11, 12, 13] rfl (by decide)
                refine x_calliS (b1 := fun (u : Unit) => (tcw y ad (tJ (sI (sI (sI (sI (sJ (sI (sI (sI σ 160 n_5) 161 n_6) 162 n_7) 163 j_8) 156 (-2)) 157 (σ.1 81)) 158 i_10) 159 i_10) 151 gv))) [1, 8, 9, 10, 11, 12, 13] (va_runV (As := [.int j]) (rest := [.int r_25, .ref (ad 151)]) ⟨hx, hb, hml, hown, hts⟩ (p_numberAt l D y H.size ad (tJ (sI (sI (sI (sI (sJ (sI (sI (sI σ 160 n_5) 161 n_6) 162 n_7) 163 j_8) 156 (-2)) 157 (σ.1 81)) 158 i_10) 159 i_10) 151 gv) j (show 0 ≤ ((σ.1 85)).toInt from by first | omega | decide) (show ((σ.1 85)).toInt ≤ 350 from by first | omega | decide)) (cwV 1 hts g_kb_begin_3 rfl rfl rfl (by decide +kernel) ⟨Nat.le_of_ble_eq_true rfl, Nat.le_of_ble_eq_true rfl⟩) (x_preV (q := (RX6, TX6, 13)) hK hPs hDs (ci := 5) (q0 := 0) rfl pqw_o0) rfl rfl hl.1 rfl (lv_room (Nat.le_of_ble_eq_true rfl)) dX8_begin_103 ⟨Nat.le_of_ble_eq_true rfl, Nat.le_of_ble_eq_true rfl⟩) hP hD hS hA rfl (fun _ => rfl) (fun _ => rfl) (fun _ => rfl) (fun r_26 u H locs hw hP hD hS => ?_)
                try dsimp only at hw
                have hP : va_P D vwCl (tcw y ad (tJ (sI (sI (sI (sI (sJ (sI (sI (sI σ 160 n_5) 161 n_6) 162 n_7) 163 j_8) 156 (-2)) 157 (σ.1 81)) 158 i_10) 159 i_10) 151 gv)) H := hP
                have hD : va_D A (tcw y ad (tJ (sI (sI (sI (sI (sJ (sI (sI (sI σ 160 n_5) 161 n_6) 162 n_7) 163 j_8) 156 (-2)) 157 (σ.1 81)) 158 i_10) 159 i_10) 151 gv)) := hD
                refine lv_i2l hx hb dX8_begin_106 rfl ?_
                refine lv_topl (fun j_27 ej_27 => ?_)
                have vj_27 : j_27.toInt = r_26.toInt := by rw [ej_27]; exact Int32.toInt_toInt64 _
                refine lv_lconst (v := 1) hx hb dX8_begin_107 (by decide) ?_
                refine x_calllN (va_runS (As := [.long j_27, .long 1]) (rest := [.int r_25, .ref (ad 151)]) ⟨hx, hb, hml, hown, hts⟩ (k_of l D y H.size j_27 1) (va_cwS 2 hts g_kb_begin_4 rfl rfl rfl (by decide +kernel) ⟨Nat.le_of_ble_eq_true rfl, Nat.le_of_ble_eq_true rfl⟩) (x_preS hK (x_nilP D H) (x_nilD A)) rfl rfl hl.1 rfl (lv_room (Nat.le_of_ble_eq_true rfl)) dX8_begin_108 ⟨Nat.le_of_ble_eq_true rfl, Nat.le_of_ble_eq_true rfl⟩) hP hD hS hA (fun r_28 u H locs hw hP hD hS => ?_)
                try dsimp only at hw
                refine va_last hx hb hK hP hD hS 3 3 tcw_a3 rfl (x_in (by omega) (by omega)) dX8_begin_111 (fun H locs hP hD hS => ?_)
                obtain ⟨f_29, ef_29⟩ : ∃ z9 : Nat → Int64, z9 = (vp_updL gv (Int32.toNatClampNeg r_25) r_28) := ⟨_, rfl⟩
                have hP : va_P D vwCl (tcw y ad (tJ (tJ (sI (sI (sI (sI (sJ (sI (sI (sI σ 160 n_5) 161 n_6) 162 n_7) 163 j_8) 156 (-2)) 157 (σ.1 81)) 158 i_10) 159 i_10) 151 gv) 151 f_29)) H := by rw [ef_29]; exact x_trP hP tcw_s3
                have hD : va_D A (tcw y ad (tJ (tJ (sI (sI (sI (sI (sJ (sI (sI (sI σ 160 n_5) 161 n_6) 162 n_7) 163 j_8) 156 (-2)) 157 (σ.1 81)) 158 i_10) 159 i_10) 151 gv) 151 f_29)) := by rw [ef_29]; exact x_trD hD tcw_s3
                obtain ⟨i_30, ei_30⟩ : ∃ z9 : Int32, z9 = j + 1 := ⟨_, rfl⟩
                have vi_30 : i_30.toInt = j.toInt + 1 := by have h9 := x_add ei_30 (by omega) (by omega); omega
                refine lv_iinc (v := i_30) (lv' := [(3, .int i_30), (2, .ref (ad 131)), (1, .ref (ad 80)), (0, .ref (ad 150))]) hx hb dX8_begin_112 hl (k := 0) rfl (by rw [ei_30]; rfl) (by decide) rfl (fun ls hl => ?_)
                refine lv_goto (tgt := 84) hx hb dX8_begin_115 (by decide) ?_
                have hP : va_P D vwCl (tcw y ad (tJ (sI (sI (sI (sI (sJ (sI (sI (sI σ 160 n_5) 161 n_6) 162 n_7) 163 j_8) 156 (-2)) 157 (σ.1 81)) 158 i_10) 159 i_10) 151 f_29)) H := hP
                have hD : va_D A (tcw y ad (tJ (sI (sI (sI (sI (sJ (sI (sI (sI σ 160 n_5) 161 n_6) 162 n_7) 163 j_8) 156 (-2)) 157 (σ.1 81)) 158 i_10) 159 i_10) 151 f_29)) := hD
                exact ih_loop2 i_30 f_29 H locs ls (by omega) (by omega) (by omega) hP hD hS (lv_sub hl [0, 1, 2, 3] rfl)
          exact loop2 351 0 f_23 H locs ls (by decide) (by omega) (by omega) hP hD hS (lv_sub hl [0, 1, 2, 3] rfl)
        · have kc_21 : i.toInt < 1359 := by have h9 := c_21; simp only [ge_iff_le, gt_iff_lt, x_lt, x_le, x_eq, ne_eq, Int32.not_lt, Int32.not_le] at h9; simp only [Int32.reduceToInt] at h9; omega
          refine lv_aload_n hx hb dX8_begin_57 rfl (lv_at hl 3 rfl) ?_
          refine va_get (D := D) (ci := 7) (v := .ref (ad 151)) (C := RX8) (T := TX8) (N := 13) hx hb hts inX8 hown hK hP 0 tcw_o0 rfl 0 (by decide) fl11 (fun _ h9 => h9) rfl dX8_begin_58 ?_
          refine lv_iload_n hx hb dX8_begin_61 rfl (lv_at hl 0 rfl) ?_
          refine lv_aload_n hx hb dX8_begin_62 rfl (lv_at hl 1 rfl) ?_
          refine lv_iload_n hx hb dX8_begin_63 rfl (lv_at hl 0 rfl) ?_
          refine va_lald hx hb hK hP 14 3 tcw_a14 rfl (x_in (by omega) (by omega)) dX8_begin_64 ?_
          refine lv_topl (fun j_31 ej_31 => ?_)
          have ej_31 : j_31 = (σ.2.2.2 131) (Int32.toNatClampNeg i) := ej_31
          refine va_last hx hb hK hP hD hS 3 3 tcw_a3 rfl (x_in (by omega) (by omega)) dX8_begin_65 (fun H locs hP hD hS => ?_)
          obtain ⟨f_32, ef_32⟩ : ∃ z9 : Nat → Int64, z9 = (vp_updL fv (Int32.toNatClampNeg i) j_31) := ⟨_, rfl⟩
          have hP : va_P D vwCl (tcw y ad (tJ (tJ (sI (sI (sI (sI (sJ (sI (sI (sI σ 160 n_5) 161 n_6) 162 n_7) 163 j_8) 156 (-2)) 157 (σ.1 81)) 158 i_10) 159 i_10) 151 fv) 151 f_32)) H := by rw [ef_32]; exact x_trP hP tcw_s3
          have hD : va_D A (tcw y ad (tJ (tJ (sI (sI (sI (sI (sJ (sI (sI (sI σ 160 n_5) 161 n_6) 162 n_7) 163 j_8) 156 (-2)) 157 (σ.1 81)) 158 i_10) 159 i_10) 151 fv) 151 f_32)) := by rw [ef_32]; exact x_trD hD tcw_s3
          obtain ⟨i_33, ei_33⟩ : ∃ z9 : Int32, z9 = i + 1 := ⟨_, rfl⟩
          have vi_33 : i_33.toInt = i.toInt + 1 := by have h9 := x_add ei_33 (by omega) (by omega); omega
          refine lv_iinc (v := i_33) (lv' := [(3, .int i_33), (2, .ref (ad 131)), (1, .ref (ad 80)), (0, .ref (ad 150))]) hx hb dX8_begin_66 hl (k := 0) rfl (by rw [ei_33]; rfl) (by decide) rfl (fun ls hl => ?_)
          refine lv_goto (tgt := 43) hx hb dX8_begin_69 (by decide) ?_
          have hP : va_P D vwCl (tcw y ad (tJ (sI (sI (sI (sI (sJ (sI (sI (sI σ 160 n_5) 161 n_6) 162 n_7) 163 j_8) 156 (-2)) 157 (σ.1 81)) 158 i_10) 159 i_10) 151 f_32)) H := hP
          have hD : va_D A (tcw y ad (tJ (sI (sI (sI (sI (sJ (sI (sI (sI σ 160 n_5) 161 n_6) 162 n_7) 163 j_8) 156 (-2)) 157 (σ.1 81)) 158 i_10) 159 i_10) 151 f_32)) := hD
          exact ih_loop i_33 f_32 H locs ls (by omega) (by omega) (by omega) hP hD hS (lv_sub hl [0, 1, 2, 3] rfl)
  exact loop 9 0 (σ.2.2.2 151) H locs ls (by decide) (by decide) (by omega) hP hD hS (lv_sub hl [0, 3, 2, 1] rfl)

def v_i_holds : List Cond := .code yX2_holds cX2_holds 2 (some .boolean) :: ([.fieldLink RX2 25 "SlopeRunner$Inputs" "count" "I"] ++ wsX20)
set_option maxHeartbeats 4000000 in
set_option maxRecDepth 100000 in
theorem i_holds (l : Launch) (D : va_G) (y : Nat → ClassId) (sz : Nat) (ad : Nat → Nat) (σ : OS) (q : Int32) : Met l yX2_holds v_i_holds ({ frames := 0, cells := 0, slots := 0, locals := 0 } : Room) (va_Pc [.ref (ad 100), .int q] (xPre D (xT y) (inw y ad σ) sz)) (va_Qi (fun (r : Int32) (_ : Unit) => (r.toInt = 1 ∧ 0 ≤ q.toInt ∧ q.toInt < (σ.1 105).toInt) ∨ r.toInt = 0) (fun (u : Unit) => xB D (xT y) (va_A (inw y ad σ) sz) (inw y ad σ)) (va_A (inw y ad σ) sz)) 0 0 (va_A (inw y ad σ) sz) := by
  refine x_meti (cc := cX2_holds) (maxL := 2) (by decide) rfl (Nat.le_of_ble_eq_true rfl) ?_
  intro p e s m below meth c A H locs Q hx hb hml hown hts hr hlocks hmn hA hP hK hD hS ls hl hQ
  have hl : lv_has ls 2 [(0, .ref (ad 100)), (1, .int q)] := hl
  have kk_0 : (0 : Int32).toInt = 0 := rfl
  have fl25 := hts (.fieldLink RX2 25 "SlopeRunner$Inputs" "count" "I") (List.mem_of_getElem? (i := 1) rfl)
  have inX2 : ∀ w ∈ wsX20, w ∈ v_i_holds := (fun w h => List.mem_cons_of_mem _ (List.mem_append_right _ h))
  have kk_1 : (1 : Int32).toInt = 1 := rfl
  refine lv_iload_n hx hb dX2_holds_0 rfl (lv_at hl 1 rfl) ?_
  refine lv_if_lt (tgt := 16) hx hb dX2_holds_1 (by decide) (fun c_1 => ?_) (fun c_1 => ?_)
  · have kc_1 : q.toInt < 0 := by have h9 := c_1; simp only [ge_iff_le, gt_iff_lt, x_lt, x_le, x_eq, ne_eq, Int32.not_lt, Int32.not_le] at h9; simp only [Int32.reduceToInt] at h9; omega
    refine lv_iconst (v := 0) hx hb dX2_holds_16 (by decide) ?_
    exact x_zretW (v := 0) (u := ()) hx hb hr hQ rfl (by omega) hP hD hK hS dX2_holds_17 hlocks
  · have kc_1 : q.toInt ≥ 0 := by have h9 := c_1; simp only [ge_iff_le, gt_iff_lt, x_lt, x_le, x_eq, ne_eq, Int32.not_lt, Int32.not_le] at h9; simp only [Int32.reduceToInt] at h9; omega
    refine lv_iload_n hx hb dX2_holds_4 rfl (lv_at hl 1 rfl) ?_
    refine lv_aload_n hx hb dX2_holds_5 rfl (lv_at hl 0 rfl) ?_
    refine va_get (D := D) (ci := 1) (v := .int (σ.1 105)) (C := RX2) (T := TX2) (N := 7) hx hb hts inX2 hown hK hP 0 inw_o0 rfl 4 (by decide) fl25 (fun _ h9 => h9) rfl dX2_holds_6 ?_
    refine lv_icmp_ge (tgt := 16) hx hb dX2_holds_9 (by decide) (fun c_2 => ?_) (fun c_2 => ?_)
    · have kc_2 : q.toInt ≥ (σ.1 105).toInt := by have h9 := c_2; simp only [ge_iff_le, gt_iff_lt, x_lt, x_le, x_eq, ne_eq, Int32.not_lt, Int32.not_le] at h9; omega
      refine lv_iconst (v := 0) hx hb dX2_holds_16 (by decide) ?_
      exact x_zretW (v := 0) (u := ()) hx hb hr hQ rfl (by omega) hP hD hK hS dX2_holds_17 hlocks
    · have kc_2 : q.toInt < (σ.1 105).toInt := by have h9 := c_2; simp only [ge_iff_le, gt_iff_lt, x_lt, x_le, x_eq, ne_eq, Int32.not_lt, Int32.not_le] at h9; omega
      refine lv_iconst (v := 1) hx hb dX2_holds_12 (by decide) ?_
      refine lv_goto (tgt := 17) hx hb dX2_holds_13 (by decide) ?_
      exact x_zretW (v := 1) (u := ()) hx hb hr hQ rfl (by omega) hP hD hK hS dX2_holds_17 hlocks

def v_i_begin : List Cond := .code yX2_begin cX2_begin 3 none :: ([.fieldLink RX2 25 "SlopeRunner$Inputs" "count" "I", .fieldLink RX2 29 "SlopeRunner$Inputs" "done" "I", .fieldLink RX2 32 "SlopeRunner$Inputs" "known" "I", .fieldLink RX2 9 "SlopeRunner$Inputs" "value" "[J"] ++ wsX20)
set_option maxHeartbeats 4000000 in
set_option maxRecDepth 100000 in
theorem i_begin (l : Launch) (D : va_G) (y : Nat → ClassId) (sz : Nat) (ad : Nat → Nat) (σ : OS) (q : Int32) : Met l yX2_begin v_i_begin ({ frames := 0, cells := 0, slots := 0, locals := 0 } : Room) (va_Pc [.ref (ad 100), .int q] (xPre D (xT y) (inw y ad σ) sz)) (va_Qv (fun (u : Int32 × Int32 × Int32 × (Nat → Int64)) => u.1 = q ∧ u.2.1.toInt = 0 ∧ u.2.2.1.toInt = 0) (fun (u : Int32 × Int32 × Int32 × (Nat → Int64)) => xB D (xT y) (va_A (inw y ad σ) sz) (inw y ad (tJ (sI (sI (sI σ 105 u.1) 106 u.2.1) 107 u.2.2.1) 101 u.2.2.2))) (va_A (inw y ad σ) sz)) 0 0 (va_A (inw y ad σ) sz) := by
  refine x_metv (cc := cX2_begin) (maxL := 3) (by decide) rfl (Nat.le_of_ble_eq_true rfl) ?_
  intro p e s m below meth c A H locs Q hx hb hml hown hts hr hlocks hmn hA hP hK hD hS ls hl hQ
  have hl : lv_has ls 3 [(0, .ref (ad 100)), (1, .int q)] := hl
  have fl25 := hts (.fieldLink RX2 25 "SlopeRunner$Inputs" "count" "I") (List.mem_of_getElem? (i := 1) rfl)
  have inX2 : ∀ w ∈ wsX20, w ∈ v_i_begin := (fun w h => List.mem_cons_of_mem _ (List.mem_append_right _ h))
  have fl29 := hts (.fieldLink RX2 29 "SlopeRunner$Inputs" "done" "I") (List.mem_of_getElem? (i := 2) rfl)
  have fl32 := hts (.fieldLink RX2 32 "SlopeRunner$Inputs" "known" "I") (List.mem_of_getElem? (i := 3) rfl)
  have fl9 := hts (.fieldLink RX2 9 "SlopeRunner$Inputs" "value" "[J") (List.mem_of_getElem? (i := 4) rfl)
  have kk_8 : (8 : Int32).toInt = 8 := rfl
  have kk_1 : (1 : Int32).toInt = 1 := rfl
  refine lv_aload_n hx hb dX2_begin_0 rfl (lv_at hl 0 rfl) ?_
  refine lv_iload_n hx hb dX2_begin_1 rfl (lv_at hl 1 rfl) ?_
  refine va_put (D := D) (ci := 1) (v := .int q) (ty := .int) (C := RX2) (T := TX2) (N := 7) hx hb hts inX2 tyX2 tyX2_ok nmX2 hown hK hP hD hS 0 inw_o0 rfl 4 (by decide) fl25 (fun _ h9 => h9) rfl (by decide +kernel) rfl rfl (Nat.le_of_ble_eq_true rfl) dX2_begin_2 (fun H locs hP hD hS => ?_)
  have hP : va_P D vwCl (inw y ad (sI σ 105 q)) H := x_trP hP inw_p0_4
  have hD : va_D A (inw y ad (sI σ 105 q)) := x_trD hD inw_p0_4
  refine lv_aload_n hx hb dX2_begin_5 rfl (lv_at hl 0 rfl) ?_
  refine lv_iconst (v := 0) hx hb dX2_begin_6 (by decide) ?_
  refine va_put (D := D) (ci := 1) (v := .int 0) (ty := .int) (C := RX2) (T := TX2) (N := 7) hx hb hts inX2 tyX2 tyX2_ok nmX2 hown hK hP hD hS 0 inw_o0 rfl 5 (by decide) fl29 (fun _ h9 => h9) rfl (by decide +kernel) rfl rfl (Nat.le_of_ble_eq_true rfl) dX2_begin_7 (fun H locs hP hD hS => ?_)
  have hP : va_P D vwCl (inw y ad (sI (sI σ 105 q) 106 0)) H := x_trP hP inw_p0_5
  have hD : va_D A (inw y ad (sI (sI σ 105 q) 106 0)) := x_trD hD inw_p0_5
  refine lv_aload_n hx hb dX2_begin_10 rfl (lv_at hl 0 rfl) ?_
  refine lv_iconst (v := 0) hx hb dX2_begin_11 (by decide) ?_
  refine va_put (D := D) (ci := 1) (v := .int 0) (ty := .int) (C := RX2) (T := TX2) (N := 7) hx hb hts inX2 tyX2 tyX2_ok nmX2 hown hK hP hD hS 0 inw_o0 rfl 6 (by decide) fl32 (fun _ h9 => h9) rfl (by decide +kernel) rfl rfl (Nat.le_of_ble_eq_true rfl) dX2_begin_12 (fun H locs hP hD hS => ?_)
  have hP : va_P D vwCl (inw y ad (sI (sI (sI σ 105 q) 106 0) 107 0)) H := x_trP hP inw_p0_6
  have hD : va_D A (inw y ad (sI (sI (sI σ 105 q) 106 0) 107 0)) := x_trD hD inw_p0_6
  refine lv_iconst (v := 0) hx hb dX2_begin_15 (by decide) ?_
  refine lv_istore_n (lv' := [(2, .int 0), (0, .ref (ad 100)), (1, .int q)]) hx hb dX2_begin_16 rfl hl (by decide) rfl (fun ls hl => ?_)
  have l00 : (0 : Int32).toInt = 0 := rfl
  have hP : va_P D vwCl (inw y ad (tJ (sI (sI (sI σ 105 q) 106 0) 107 0) 101 (σ.2.2.2 101))) H := hP
  have hD : va_D A (inw y ad (tJ (sI (sI (sI σ 105 q) 106 0) 107 0) 101 (σ.2.2.2 101))) := hD
  have loop : ∀ (fu : Nat) (i : Int32) (fv : Nat → Int64) (H : Heap) (locs : List Loc) (ls : Array Slot), (0 ≤ i.toInt) → (i.toInt ≤ 8) → (8 - i.toInt < (fu : Int)) → va_P D vwCl (inw y ad (tJ (sI (sI (sI σ 105 q) 106 0) 107 0) 101 fv)) H → va_D A (inw y ad (tJ (sI (sI (sI σ 105 q) 106 0) 107 0) 101 fv)) → va_S A s.heap H locs → lv_has ls 3 [(2, .int i), (1, .int q), (0, .ref (ad 100))] → W p l e ({ frames := 0, cells := 0, slots := 0, locals := 0 } : Room) s m ([.ref (ad 100), .int q] : List Value).toArray below meth c H locs 0 0 Q (F0 m 17 ls []) := by
    intro fu
    induction fu with
    | zero =>
      intro i fv H locs ls hi0 hi1 hm
      exact absurd hm (by omega)
    | succ fu ih_loop =>
      intro i fv H locs ls hi0 hi1 hm hP hD hS hl
      refine lv_iload_n hx hb dX2_begin_17 rfl (lv_at hl 0 rfl) ?_
      refine lv_aload_n hx hb dX2_begin_18 rfl (lv_at hl 2 rfl) ?_
      refine va_get (D := D) (ci := 1) (v := .ref (ad 101)) (C := RX2) (T := TX2) (N := 7) hx hb hts inX2 hown hK hP 0 inw_o0 rfl 0 (by decide) fl9 (fun _ h9 => h9) rfl dX2_begin_19 ?_
      refine va_alen hx hb hK hP 1 3 inw_a1 rfl (v := 8) rfl dX2_begin_22 ?_
      refine lv_icmp_ge (tgt := 39) hx hb dX2_begin_23 (by decide) (fun c_1 => ?_) (fun c_1 => ?_)
      · have kc_1 : i.toInt ≥ 8 := by have h9 := c_1; simp only [ge_iff_le, gt_iff_lt, x_lt, x_le, x_eq, ne_eq, Int32.not_lt, Int32.not_le] at h9; simp only [Int32.reduceToInt] at h9; omega
        exact x_vretW (u := (q, 0, 0, fv)) hx hb hr hQ (by (try dsimp only); exact ⟨rfl, rfl, rfl⟩) hP hD hK hS dX2_begin_39 hlocks
      · have kc_1 : i.toInt < 8 := by have h9 := c_1; simp only [ge_iff_le, gt_iff_lt, x_lt, x_le, x_eq, ne_eq, Int32.not_lt, Int32.not_le] at h9; simp only [Int32.reduceToInt] at h9; omega
        refine lv_aload_n hx hb dX2_begin_26 rfl (lv_at hl 2 rfl) ?_
        refine va_get (D := D) (ci := 1) (v := .ref (ad 101)) (C := RX2) (T := TX2) (N := 7) hx hb hts inX2 hown hK hP 0 inw_o0 rfl 0 (by decide) fl9 (fun _ h9 => h9) rfl dX2_begin_27 ?_
        refine lv_iload_n hx hb dX2_begin_30 rfl (lv_at hl 0 rfl) ?_
        refine lv_lconst (v := 1) hx hb dX2_begin_31 (by decide) ?_
        refine va_last hx hb hK hP hD hS 1 3 inw_a1 rfl (x_in (by omega) (by omega)) dX2_begin_32 (fun H locs hP hD hS => ?_)
        obtain ⟨f_2, ef_2⟩ : ∃ z9 : Nat → Int64, z9 = (vp_updL fv (Int32.toNatClampNeg i) 1) := ⟨_, rfl⟩
        have hP : va_P D vwCl (inw y ad (tJ (tJ (sI (sI (sI σ 105 q) 106 0) 107 0) 101 fv) 101 f_2)) H := by rw [ef_2]; exact x_trP hP inw_s1
        have hD : va_D A (inw y ad (tJ (tJ (sI (sI (sI σ 105 q) 106 0) 107 0) 101 fv) 101 f_2)) := by rw [ef_2]; exact x_trD hD inw_s1
        obtain ⟨i_3, ei_3⟩ : ∃ z9 : Int32, z9 = i + 1 := ⟨_, rfl⟩
        have vi_3 : i_3.toInt = i.toInt + 1 := by have h9 := x_add ei_3 (by omega) (by omega); omega
        refine lv_iinc (v := i_3) (lv' := [(2, .int i_3), (1, .int q), (0, .ref (ad 100))]) hx hb dX2_begin_33 hl (k := 0) rfl (by rw [ei_3]; rfl) (by decide) rfl (fun ls hl => ?_)
        refine lv_goto (tgt := 17) hx hb dX2_begin_36 (by decide) ?_
        have hP : va_P D vwCl (inw y ad (tJ (sI (sI (sI σ 105 q) 106 0) 107 0) 101 f_2)) H := hP
        have hD : va_D A (inw y ad (tJ (sI (sI (sI σ 105 q) 106 0) 107 0) 101 f_2)) := hD
        exact ih_loop i_3 f_2 H locs ls (by omega) (by omega) (by omega) hP hD hS (lv_sub hl [0, 1, 2] rfl)
  exact loop 9 0 (σ.2.2.2 101) H locs ls (by decide) (by decide) (by omega) hP hD hS (lv_sub hl [0, 2, 1] rfl)

def v_i_valueOf : List Cond := .code yX2_valueOf cX2_valueOf 2 (some .long) :: ([.fieldLink RX2 9 "SlopeRunner$Inputs" "value" "[J"] ++ ((wsV RX2 37 RX2 yX2_holds v_i_holds) ++ wsX20))
theorem g_i_valueOf_0 : GoodIn v_i_valueOf (wsV RX2 37 RX2 yX2_holds v_i_holds) := goodIn_sub (fun w h => List.mem_cons_of_mem _ (List.mem_append_right _ (List.mem_append_left _ h))) (by decide +kernel)
set_option maxHeartbeats 4000000 in
set_option maxRecDepth 100000 in
theorem i_valueOf (l : Launch) (D : va_G) (y : Nat → ClassId) (sz : Nat) (ad : Nat → Nat) (σ : OS) (q : Int32) (hct0 : 0 ≤ (σ.1 105).toInt) (hct1 : (σ.1 105).toInt ≤ 8) : Met l yX2_valueOf v_i_valueOf ({ frames := 1, cells := 0, slots := 0, locals := 21 } : Room) (va_Pc [.ref (ad 100), .int q] (xPre D (xT y) (inw y ad σ) sz)) (va_Ql (fun (r : Int64) (_ : Unit) => True) (fun (u : Unit) => xB D (xT y) (va_A (inw y ad σ) sz) (inw y ad σ)) (va_A (inw y ad σ) sz)) 0 0 (va_A (inw y ad σ) sz) := by
  refine x_metl (cc := cX2_valueOf) (maxL := 2) (by decide) rfl (Nat.le_of_ble_eq_true rfl) ?_
  intro p e s m below meth c A H locs Q hx hb hml hown hts hr hlocks hmn hA hP hK hD hS ls hl hQ
  have hl : lv_has ls 2 [(0, .ref (ad 100)), (1, .int q)] := hl
  have kk_0 : (0 : Int32).toInt = 0 := rfl
  have fl9 := hts (.fieldLink RX2 9 "SlopeRunner$Inputs" "value" "[J") (List.mem_of_getElem? (i := 1) rfl)
  have inX2 : ∀ w ∈ wsX20, w ∈ v_i_valueOf := (fun w h => List.mem_cons_of_mem _ (List.mem_append_right _ (List.mem_append_right _ h)))
  refine lv_aload_n hx hb dX2_valueOf_0 rfl (lv_at hl 0 rfl) ?_
  refine lv_iload_n hx hb dX2_valueOf_1 rfl (lv_at hl 1 rfl) ?_
  refine x_calliW (va_runV (As := [.int q]) (rest := []) ⟨hx, hb, hml, hown, hts⟩ (i_holds l D y H.size ad σ q) (cwV 1 hts g_i_valueOf_0 rfl rfl rfl (by decide +kernel) ⟨Nat.le_of_ble_eq_true rfl, Nat.le_of_ble_eq_true rfl⟩) (x_preV (q := (RX2, TX2, 7)) hK hP hD (ci := 1) (q0 := 0) rfl inw_o0) rfl rfl hl.1 rfl (lv_room (Nat.le_of_ble_eq_true rfl)) dX2_valueOf_2 ⟨Nat.le_of_ble_eq_true rfl, Nat.le_of_ble_eq_true rfl⟩) hP hD hS hA (fun r_1 u H locs hw hP hD hS => ?_)
  try dsimp only at hw
  have hP : va_P D vwCl (inw y ad σ) H := hP
  have hD : va_D A (inw y ad σ) := hD
  replace hw : (r_1.toInt = 1 ∧ 0 ≤ q.toInt ∧ q.toInt < ((σ.1 105)).toInt) ∨ r_1.toInt = 0 := hw
  refine lv_if_eq (tgt := 17) hx hb dX2_valueOf_5 (by decide) (fun c_2 => ?_) (fun c_2 => ?_)
  · have kc_2 : r_1.toInt = 0 := by have h9 := c_2; simp only [ge_iff_le, gt_iff_lt, x_lt, x_le, x_eq, ne_eq, Int32.not_lt, Int32.not_le] at h9; simp only [Int32.reduceToInt] at h9; omega
    refine lv_lconst (v := 0) hx hb dX2_valueOf_17 (by decide) ?_
    exact x_lretW (v := 0) (u := ()) hx hb hr hQ trivial hP hD hK hS dX2_valueOf_18 hlocks
  · have kc_2 : r_1.toInt ≠ 0 := by have h9 := c_2; simp only [ge_iff_le, gt_iff_lt, x_lt, x_le, x_eq, ne_eq, Int32.not_lt, Int32.not_le] at h9; simp only [Int32.reduceToInt] at h9; omega
    refine lv_aload_n hx hb dX2_valueOf_8 rfl (lv_at hl 0 rfl) ?_
    refine va_get (D := D) (ci := 1) (v := .ref (ad 101)) (C := RX2) (T := TX2) (N := 7) hx hb hts inX2 hown hK hP 0 inw_o0 rfl 0 (by decide) fl9 (fun _ h9 => h9) rfl dX2_valueOf_9 ?_
    refine lv_iload_n hx hb dX2_valueOf_12 rfl (lv_at hl 1 rfl) ?_
    refine va_lald hx hb hK hP 1 3 inw_a1 rfl (x_in (by omega) (by omega)) dX2_valueOf_13 ?_
    refine lv_topl (fun j_3 ej_3 => ?_)
    have ej_3 : j_3 = (σ.2.2.2 101) (Int32.toNatClampNeg q) := ej_3
    refine lv_goto (tgt := 18) hx hb dX2_valueOf_14 (by decide) ?_
    exact x_lretW (v := j_3) (u := ()) hx hb hr hQ trivial hP hD hK hS dX2_valueOf_18 hlocks

def v_i_dropOldest : List Cond := .code yX2_dropOldest cX2_dropOldest 1 none :: ([.fieldLink RX2 29 "SlopeRunner$Inputs" "done" "I", .fieldLink RX2 15 "SlopeRunner$Inputs" "changed" "[I", .fieldLink RX2 19 "SlopeRunner$Inputs" "before" "[J", .fieldLink RX2 22 "SlopeRunner$Inputs" "after" "[J", .methodLink RX2 44 arraycopyName, .native arraycopyName, .static arraycopyName, .initialized "java/lang/System"] ++ wsX20)
set_option maxHeartbeats 4000000 in
set_option maxRecDepth 100000 in
theorem i_dropOldest (l : Launch) (D : va_G) (y : Nat → ClassId) (sz : Nat) (ad : Nat → Nat) (σ : OS) (hB102 : bI (σ.2.2.1 102) 0 7) : Met l yX2_dropOldest v_i_dropOldest ({ frames := 1, cells := 0, slots := 0, locals := 80 } : Room) (va_Pc [.ref (ad 100)] (xPre D (xT y) (inw y ad σ) sz)) (va_Qv (fun (u : Int32 × (Nat → Int32) × (Nat → Int64) × (Nat → Int64)) => (u.1.toInt = 39) ∧ bI u.2.1 0 7) (fun (u : Int32 × (Nat → Int32) × (Nat → Int64) × (Nat → Int64)) => xB D (xT y) (va_A (inw y ad σ) sz) (inw y ad (tJ (tJ (tI (sI σ 106 u.1) 102 u.2.1) 103 u.2.2.1) 104 u.2.2.2))) (va_A (inw y ad σ) sz)) 0 0 (va_A (inw y ad σ) sz) := by
  refine x_metv (cc := cX2_dropOldest) (maxL := 1) (by decide) rfl (Nat.le_of_ble_eq_true rfl) ?_
  intro p e s m below meth c A H locs Q hx hb hml hown hts hr hlocks hmn hA hP hK hD hS ls hl hQ
  have hl : lv_has ls 1 [(0, .ref (ad 100))] := hl
  have fl29 := hts (.fieldLink RX2 29 "SlopeRunner$Inputs" "done" "I") (List.mem_of_getElem? (i := 1) rfl)
  have inX2 : ∀ w ∈ wsX20, w ∈ v_i_dropOldest := (fun w h => List.mem_cons_of_mem _ (List.mem_append_right _ h))
  have fl15 := hts (.fieldLink RX2 15 "SlopeRunner$Inputs" "changed" "[I") (List.mem_of_getElem? (i := 2) rfl)
  have fl19 := hts (.fieldLink RX2 19 "SlopeRunner$Inputs" "before" "[J") (List.mem_of_getElem? (i := 3) rfl)
  have fl22 := hts (.fieldLink RX2 22 "SlopeRunner$Inputs" "after" "[J") (List.mem_of_getElem? (i := 4) rfl)
  refine lv_aload_n hx hb dX2_dropOldest_0 rfl (lv_at hl 0 rfl) ?_
  refine lv_bipush (v := 39) hx hb dX2_dropOldest_1 (by decide) ?_
  refine va_put (D := D) (ci := 1) (v := .int 39) (ty := .int) (C := RX2) (T := TX2) (N := 7) hx hb hts inX2 tyX2 tyX2_ok nmX2 hown hK hP hD hS 0 inw_o0 rfl 5 (by decide) fl29 (fun _ h9 => h9) rfl (by decide +kernel) rfl rfl (Nat.le_of_ble_eq_true rfl) dX2_dropOldest_3 (fun H locs hP hD hS => ?_)
  have hP : va_P D vwCl (inw y ad (sI σ 106 39)) H := x_trP hP inw_p0_5
  have hD : va_D A (inw y ad (sI σ 106 39)) := x_trD hD inw_p0_5
  refine lv_aload_n hx hb dX2_dropOldest_6 rfl (lv_at hl 0 rfl) ?_
  refine va_get (D := D) (ci := 1) (v := .ref (ad 102)) (C := RX2) (T := TX2) (N := 7) hx hb hts inX2 hown hK hP 0 inw_o0 rfl 1 (by decide) fl15 (fun _ h9 => h9) rfl dX2_dropOldest_7 ?_
  refine lv_iconst (v := 1) hx hb dX2_dropOldest_10 (by decide) ?_
  refine lv_aload_n hx hb dX2_dropOldest_11 rfl (lv_at hl 0 rfl) ?_
  refine va_get (D := D) (ci := 1) (v := .ref (ad 102)) (C := RX2) (T := TX2) (N := 7) hx hb hts inX2 hown hK hP 0 inw_o0 rfl 1 (by decide) fl15 (fun _ h9 => h9) rfl dX2_dropOldest_12 ?_
  refine lv_iconst (v := 0) hx hb dX2_dropOldest_15 (by decide) ?_
  refine lv_aload_n hx hb dX2_dropOldest_16 rfl (lv_at hl 0 rfl) ?_
  refine va_get (D := D) (ci := 1) (v := .int 39) (C := RX2) (T := TX2) (N := 7) hx hb hts inX2 hown hK hP 0 inw_o0 rfl 5 (by decide) fl29 (fun _ h9 => h9) rfl dX2_dropOldest_17 ?_
  refine va_copyi hx hb (hml.trans hl.1.symm) hown (hts (.methodLink RX2 44 arraycopyName) (List.mem_of_getElem? (i := 5) rfl)) (hts (.native arraycopyName) (List.mem_of_getElem? (i := 6) rfl)) (hts (.static arraycopyName) (List.mem_of_getElem? (i := 7) rfl)) (hts (.initialized "java/lang/System") (List.mem_of_getElem? (i := 8) rfl)) hK hP hD hS 2 2 2 2 inw_a2 inw_a2 rfl rfl rfl (by decide) (by decide) (by decide) (by decide) (by decide) (fun _ _ => rfl) (Nat.le_of_ble_eq_true rfl) (Nat.le_of_ble_eq_true rfl) dX2_dropOldest_20 (fun H locs hP hD hS => ?_)
  obtain ⟨f_1, ef_1⟩ : ∃ z9 : Nat → Int32, z9 = va_cpy (σ.2.2.1 102) (σ.2.2.1 102) (Int32.toNatClampNeg 1) (Int32.toNatClampNeg 0) (Int32.toNatClampNeg 39) := ⟨_, rfl⟩
  have hP : va_P D vwCl (inw y ad (tI (sI σ 106 39) 102 f_1)) H := by rw [ef_1]; exact x_trP hP inw_s2
  have hD : va_D A (inw y ad (tI (sI σ 106 39) 102 f_1)) := by rw [ef_1]; exact x_trD hD inw_s2
  have hvf_1 : bI f_1 0 7 := by rw [ef_1]; exact b_cpy hB102 hB102
  refine lv_aload_n hx hb dX2_dropOldest_23 rfl (lv_at hl 0 rfl) ?_
  refine va_get (D := D) (ci := 1) (v := .ref (ad 103)) (C := RX2) (T := TX2) (N := 7) hx hb hts inX2 hown hK hP 0 inw_o0 rfl 2 (by decide) fl19 (fun _ h9 => h9) rfl dX2_dropOldest_24 ?_
  refine lv_iconst (v := 1) hx hb dX2_dropOldest_27 (by decide) ?_
  refine lv_aload_n hx hb dX2_dropOldest_28 rfl (lv_at hl 0 rfl) ?_
  refine va_get (D := D) (ci := 1) (v := .ref (ad 103)) (C := RX2) (T := TX2) (N := 7) hx hb hts inX2 hown hK hP 0 inw_o0 rfl 2 (by decide) fl19 (fun _ h9 => h9) rfl dX2_dropOldest_29 ?_
  refine lv_iconst (v := 0) hx hb dX2_dropOldest_32 (by decide) ?_
  refine lv_aload_n hx hb dX2_dropOldest_33 rfl (lv_at hl 0 rfl) ?_
  refine va_get (D := D) (ci := 1) (v := .int 39) (C := RX2) (T := TX2) (N := 7) hx hb hts inX2 hown hK hP 0 inw_o0 rfl 5 (by decide) fl29 (fun _ h9 => h9) rfl dX2_dropOldest_34 ?_
  refine va_copyl hx hb (hml.trans hl.1.symm) hown (hts (.methodLink RX2 44 arraycopyName) (List.mem_of_getElem? (i := 5) rfl)) (hts (.native arraycopyName) (List.mem_of_getElem? (i := 6) rfl)) (hts (.static arraycopyName) (List.mem_of_getElem? (i := 7) rfl)) (hts (.initialized "java/lang/System") (List.mem_of_getElem? (i := 8) rfl)) hK hP hD hS 3 3 3 3 inw_a3 inw_a3 rfl rfl rfl (by decide) (by decide) (by decide) (by decide) (by decide) (fun _ _ => rfl) (Nat.le_of_ble_eq_true rfl) (Nat.le_of_ble_eq_true rfl) dX2_dropOldest_37 (fun H locs hP hD hS => ?_)
  obtain ⟨f_2, ef_2⟩ : ∃ z9 : Nat → Int64, z9 = va_cpy (σ.2.2.2 103) (σ.2.2.2 103) (Int32.toNatClampNeg 1) (Int32.toNatClampNeg 0) (Int32.toNatClampNeg 39) := ⟨_, rfl⟩
  have hP : va_P D vwCl (inw y ad (tJ (tI (sI σ 106 39) 102 f_1) 103 f_2)) H := by rw [ef_2]; exact x_trP hP inw_s3
  have hD : va_D A (inw y ad (tJ (tI (sI σ 106 39) 102 f_1) 103 f_2)) := by rw [ef_2]; exact x_trD hD inw_s3
  refine lv_aload_n hx hb dX2_dropOldest_40 rfl (lv_at hl 0 rfl) ?_
  refine va_get (D := D) (ci := 1) (v := .ref (ad 104)) (C := RX2) (T := TX2) (N := 7) hx hb hts inX2 hown hK hP 0 inw_o0 rfl 3 (by decide) fl22 (fun _ h9 => h9) rfl dX2_dropOldest_41 ?_
  refine lv_iconst (v := 1) hx hb dX2_dropOldest_44 (by decide) ?_
  refine lv_aload_n hx hb dX2_dropOldest_45 rfl (lv_at hl 0 rfl) ?_
  refine va_get (D := D) (ci := 1) (v := .ref (ad 104)) (C := RX2) (T := TX2) (N := 7) hx hb hts inX2 hown hK hP 0 inw_o0 rfl 3 (by decide) fl22 (fun _ h9 => h9) rfl dX2_dropOldest_46 ?_
  refine lv_iconst (v := 0) hx hb dX2_dropOldest_49 (by decide) ?_
  refine lv_aload_n hx hb dX2_dropOldest_50 rfl (lv_at hl 0 rfl) ?_
  refine va_get (D := D) (ci := 1) (v := .int 39) (C := RX2) (T := TX2) (N := 7) hx hb hts inX2 hown hK hP 0 inw_o0 rfl 5 (by decide) fl29 (fun _ h9 => h9) rfl dX2_dropOldest_51 ?_
  refine va_copyl hx hb (hml.trans hl.1.symm) hown (hts (.methodLink RX2 44 arraycopyName) (List.mem_of_getElem? (i := 5) rfl)) (hts (.native arraycopyName) (List.mem_of_getElem? (i := 6) rfl)) (hts (.static arraycopyName) (List.mem_of_getElem? (i := 7) rfl)) (hts (.initialized "java/lang/System") (List.mem_of_getElem? (i := 8) rfl)) hK hP hD hS 4 4 3 3 inw_a4 inw_a4 rfl rfl rfl (by decide) (by decide) (by decide) (by decide) (by decide) (fun _ _ => rfl) (Nat.le_of_ble_eq_true rfl) (Nat.le_of_ble_eq_true rfl) dX2_dropOldest_54 (fun H locs hP hD hS => ?_)
  obtain ⟨f_3, ef_3⟩ : ∃ z9 : Nat → Int64, z9 = va_cpy (σ.2.2.2 104) (σ.2.2.2 104) (Int32.toNatClampNeg 1) (Int32.toNatClampNeg 0) (Int32.toNatClampNeg 39) := ⟨_, rfl⟩
  have hP : va_P D vwCl (inw y ad (tJ (tJ (tI (sI σ 106 39) 102 f_1) 103 f_2) 104 f_3)) H := by rw [ef_3]; exact x_trP hP inw_s4
  have hD : va_D A (inw y ad (tJ (tJ (tI (sI σ 106 39) 102 f_1) 103 f_2) 104 f_3)) := by rw [ef_3]; exact x_trD hD inw_s4
  exact x_vretW (u := (39, f_1, f_2, f_3)) hx hb hr hQ (by (try dsimp only); exact ⟨rfl, hvf_1⟩) hP hD hK hS dX2_dropOldest_57 hlocks

def v_i_change : List Cond := .code yX2_change cX2_change 4 none :: ([.fieldLink RX2 29 "SlopeRunner$Inputs" "done" "I", .fieldLink RX2 15 "SlopeRunner$Inputs" "changed" "[I", .fieldLink RX2 19 "SlopeRunner$Inputs" "before" "[J", .fieldLink RX2 9 "SlopeRunner$Inputs" "value" "[J", .fieldLink RX2 22 "SlopeRunner$Inputs" "after" "[J", .fieldLink RX2 32 "SlopeRunner$Inputs" "known" "I"] ++ ((wsV RX2 37 RX2 yX2_holds v_i_holds) ++ ((wsV RX2 41 RX2 yX2_dropOldest v_i_dropOldest) ++ wsX20)))
theorem g_i_change_0 : GoodIn v_i_change (wsV RX2 37 RX2 yX2_holds v_i_holds) := goodIn_sub (fun w h => List.mem_cons_of_mem _ (List.mem_append_right _ (List.mem_append_left _ h))) (by decide +kernel)
theorem g_i_change_1 : GoodIn v_i_change (wsV RX2 41 RX2 yX2_dropOldest v_i_dropOldest) := goodIn_sub (fun w h => List.mem_cons_of_mem _ (List.mem_append_right _ (List.mem_append_right _ (List.mem_append_left _ h)))) (by decide +kernel)
set_option maxHeartbeats 4000000 in
set_option maxRecDepth 100000 in
theorem i_change (l : Launch) (D : va_G) (y : Nat → ClassId) (sz : Nat) (ad : Nat → Nat) (σ : OS) (q : Int32) (z : Int64) (hct0 : 0 ≤ (σ.1 105).toInt) (hct1 : (σ.1 105).toInt ≤ 8) (hdn0 : 0 ≤ (σ.1 106).toInt) (hdn1 : (σ.1 106).toInt ≤ (σ.1 107).toInt) (hkn : (σ.1 107).toInt ≤ 40)  (hB102 : bI (σ.2.2.1 102) 0 7) : Met l yX2_change v_i_change ({ frames := 2, cells := 0, slots := 0, locals := 100 } : Room) (va_Pc [.ref (ad 100), .int q, .long z] (xPre D (xT y) (inw y ad σ) sz)) (va_Qv (fun (u : Int32 × Int32 × (Nat → Int32) × (Nat → Int64) × (Nat → Int64) × (Nat → Int64)) => (0 ≤ u.1.toInt ∧ u.1.toInt ≤ u.2.1.toInt ∧ u.2.1.toInt ≤ 40) ∧ bI u.2.2.1 0 7) (fun (u : Int32 × Int32 × (Nat → Int32) × (Nat → Int64) × (Nat → Int64) × (Nat → Int64)) => xB D (xT y) (va_A (inw y ad σ) sz) (inw y ad (tJ (tJ (tJ (tI (sI (sI σ 106 u.1) 107 u.2.1) 102 u.2.2.1) 103 u.2.2.2.1) 104 u.2.2.2.2.1) 101 u.2.2.2.2.2))) (va_A (inw y ad σ) sz)) 0 0 (va_A (inw y ad σ) sz) := by
  refine x_metv (cc := cX2_change) (maxL := 4) (by decide) rfl (Nat.le_of_ble_eq_true rfl) ?_
  intro p e s m below meth c A H locs Q hx hb hml hown hts hr hlocks hmn hA hP hK hD hS ls hl hQ
  have hl : lv_has ls 4 [(0, .ref (ad 100)), (1, .int q), (2, .long z)] := hl
  have kk_0 : (0 : Int32).toInt = 0 := rfl
  have fl29 := hts (.fieldLink RX2 29 "SlopeRunner$Inputs" "done" "I") (List.mem_of_getElem? (i := 1) rfl)
  have inX2 : ∀ w ∈ wsX20, w ∈ v_i_change := (fun w h => List.mem_cons_of_mem _ (List.mem_append_right _ (List.mem_append_right _ (List.mem_append_right _ h))))
  have kk_40 : (40 : Int32).toInt = 40 := rfl
  have fl15 := hts (.fieldLink RX2 15 "SlopeRunner$Inputs" "changed" "[I") (List.mem_of_getElem? (i := 2) rfl)
  have fl19 := hts (.fieldLink RX2 19 "SlopeRunner$Inputs" "before" "[J") (List.mem_of_getElem? (i := 3) rfl)
  have fl9 := hts (.fieldLink RX2 9 "SlopeRunner$Inputs" "value" "[J") (List.mem_of_getElem? (i := 4) rfl)
  have fl22 := hts (.fieldLink RX2 22 "SlopeRunner$Inputs" "after" "[J") (List.mem_of_getElem? (i := 5) rfl)
  have kk_1 : (1 : Int32).toInt = 1 := rfl
  have fl32 := hts (.fieldLink RX2 32 "SlopeRunner$Inputs" "known" "I") (List.mem_of_getElem? (i := 6) rfl)
  refine lv_aload_n hx hb dX2_change_0 rfl (lv_at hl 0 rfl) ?_
  refine lv_iload_n hx hb dX2_change_1 rfl (lv_at hl 1 rfl) ?_
  refine x_calliW (va_runV (As := [.int q]) (rest := []) ⟨hx, hb, hml, hown, hts⟩ (i_holds l D y H.size ad σ q) (cwV 1 hts g_i_change_0 rfl rfl rfl (by decide +kernel) ⟨Nat.le_of_ble_eq_true rfl, Nat.le_of_ble_eq_true rfl⟩) (x_preV (q := (RX2, TX2, 7)) hK hP hD (ci := 1) (q0 := 0) rfl inw_o0) rfl rfl hl.1 rfl (lv_room (Nat.le_of_ble_eq_true rfl)) dX2_change_2 ⟨Nat.le_of_ble_eq_true rfl, Nat.le_of_ble_eq_true rfl⟩) hP hD hS hA (fun r_1 u H locs hw hP hD hS => ?_)
  try dsimp only at hw
  have hP : va_P D vwCl (inw y ad σ) H := hP
  have hD : va_D A (inw y ad σ) := hD
  replace hw : (r_1.toInt = 1 ∧ 0 ≤ q.toInt ∧ q.toInt < ((σ.1 105)).toInt) ∨ r_1.toInt = 0 := hw
  have hhd := hw
  refine lv_if_ne (tgt := 9) hx hb dX2_change_5 (by decide) (fun c_2 => ?_) (fun c_2 => ?_)
  · have kc_2 : r_1.toInt ≠ 0 := by have h9 := c_2; simp only [ge_iff_le, gt_iff_lt, x_lt, x_le, x_eq, ne_eq, Int32.not_lt, Int32.not_le] at h9; simp only [Int32.reduceToInt] at h9; omega
    refine lv_aload_n hx hb dX2_change_9 rfl (lv_at hl 0 rfl) ?_
    refine va_get (D := D) (ci := 1) (v := .int (σ.1 106)) (C := RX2) (T := TX2) (N := 7) hx hb hts inX2 hown hK hP 0 inw_o0 rfl 5 (by decide) fl29 (fun _ h9 => h9) rfl dX2_change_10 ?_
    refine lv_bipush (v := 40) hx hb dX2_change_13 (by decide) ?_
    refine lv_icmp_lt (tgt := 22) hx hb dX2_change_15 (by decide) (fun c_3 => ?_) (fun c_3 => ?_)
    · have kc_3 : (σ.1 106).toInt < 40 := by have h9 := c_3; simp only [ge_iff_le, gt_iff_lt, x_lt, x_le, x_eq, ne_eq, Int32.not_lt, Int32.not_le] at h9; simp only [Int32.reduceToInt] at h9; omega
      refine lv_aload_n hx hb dX2_change_22 rfl (lv_at hl 0 rfl) ?_
      refine va_get (D := D) (ci := 1) (v := .ref (ad 102)) (C := RX2) (T := TX2) (N := 7) hx hb hts inX2 hown hK hP 0 inw_o0 rfl 1 (by decide) fl15 (fun _ h9 => h9) rfl dX2_change_23 ?_
      refine lv_aload_n hx hb dX2_change_26 rfl (lv_at hl 0 rfl) ?_
      refine va_get (D := D) (ci := 1) (v := .int (σ.1 106)) (C := RX2) (T := TX2) (N := 7) hx hb hts inX2 hown hK hP 0 inw_o0 rfl 5 (by decide) fl29 (fun _ h9 => h9) rfl dX2_change_27 ?_
      refine lv_iload_n hx hb dX2_change_30 rfl (lv_at hl 1 rfl) ?_
      refine va_iast hx hb hK hP hD hS 2 2 inw_a2 rfl (x_in (by omega) (by omega)) dX2_change_31 (fun H locs hP hD hS => ?_)
      obtain ⟨f_4, ef_4⟩ : ∃ z9 : Nat → Int32, z9 = (upd (σ.2.2.1 102) (Int32.toNatClampNeg (σ.1 106)) q) := ⟨_, rfl⟩
      have hP : va_P D vwCl (inw y ad (tI σ 102 f_4)) H := by rw [ef_4]; exact x_trP hP inw_s2
      have hD : va_D A (inw y ad (tI σ 102 f_4)) := by rw [ef_4]; exact x_trD hD inw_s2
      have hvf_4 : bI f_4 0 7 := by rw [ef_4]; exact b_upd hB102 (by omega) (by omega)
      refine lv_aload_n hx hb dX2_change_32 rfl (lv_at hl 0 rfl) ?_
      refine va_get (D := D) (ci := 1) (v := .ref (ad 103)) (C := RX2) (T := TX2) (N := 7) hx hb hts inX2 hown hK hP 0 inw_o0 rfl 2 (by decide) fl19 (fun _ h9 => h9) rfl dX2_change_33 ?_
      refine lv_aload_n hx hb dX2_change_36 rfl (lv_at hl 0 rfl) ?_
      refine va_get (D := D) (ci := 1) (v := .int (σ.1 106)) (C := RX2) (T := TX2) (N := 7) hx hb hts inX2 hown hK hP 0 inw_o0 rfl 5 (by decide) fl29 (fun _ h9 => h9) rfl dX2_change_37 ?_
      refine lv_aload_n hx hb dX2_change_40 rfl (lv_at hl 0 rfl) ?_
      refine va_get (D := D) (ci := 1) (v := .ref (ad 101)) (C := RX2) (T := TX2) (N := 7) hx hb hts inX2 hown hK hP 0 inw_o0 rfl 0 (by decide) fl9 (fun _ h9 => h9) rfl dX2_change_41 ?_
      refine lv_iload_n hx hb dX2_change_44 rfl (lv_at hl 1 rfl) ?_
      refine va_lald hx hb hK hP 1 3 inw_a1 rfl (x_in (by omega) (by omega)) dX2_change_45 ?_
      refine lv_topl (fun j_5 ej_5 => ?_)
      have ej_5 : j_5 = (σ.2.2.2 101) (Int32.toNatClampNeg q) := ej_5
      refine va_last hx hb hK hP hD hS 3 3 inw_a3 rfl (x_in (by omega) (by omega)) dX2_change_46 (fun H locs hP hD hS => ?_)
      obtain ⟨f_6, ef_6⟩ : ∃ z9 : Nat → Int64, z9 = (vp_updL (σ.2.2.2 103) (Int32.toNatClampNeg (σ.1 106)) j_5) := ⟨_, rfl⟩
      have hP : va_P D vwCl (inw y ad (tJ (tI σ 102 f_4) 103 f_6)) H := by rw [ef_6]; exact x_trP hP inw_s3
      have hD : va_D A (inw y ad (tJ (tI σ 102 f_4) 103 f_6)) := by rw [ef_6]; exact x_trD hD inw_s3
      refine lv_aload_n hx hb dX2_change_47 rfl (lv_at hl 0 rfl) ?_
      refine va_get (D := D) (ci := 1) (v := .ref (ad 104)) (C := RX2) (T := TX2) (N := 7) hx hb hts inX2 hown hK hP 0 inw_o0 rfl 3 (by decide) fl22 (fun _ h9 => h9) rfl dX2_change_48 ?_
      refine lv_aload_n hx hb dX2_change_51 rfl (lv_at hl 0 rfl) ?_
      refine va_get (D := D) (ci := 1) (v := .int (σ.1 106)) (C := RX2) (T := TX2) (N := 7) hx hb hts inX2 hown hK hP 0 inw_o0 rfl 5 (by decide) fl29 (fun _ h9 => h9) rfl dX2_change_52 ?_
      refine lv_lload_n hx hb dX2_change_55 rfl (lv_at hl 2 rfl) ?_
      refine va_last hx hb hK hP hD hS 4 3 inw_a4 rfl (x_in (by omega) (by omega)) dX2_change_56 (fun H locs hP hD hS => ?_)
      obtain ⟨f_7, ef_7⟩ : ∃ z9 : Nat → Int64, z9 = (vp_updL (σ.2.2.2 104) (Int32.toNatClampNeg (σ.1 106)) z) := ⟨_, rfl⟩
      have hP : va_P D vwCl (inw y ad (tJ (tJ (tI σ 102 f_4) 103 f_6) 104 f_7)) H := by rw [ef_7]; exact x_trP hP inw_s4
      have hD : va_D A (inw y ad (tJ (tJ (tI σ 102 f_4) 103 f_6) 104 f_7)) := by rw [ef_7]; exact x_trD hD inw_s4
      refine lv_aload_n hx hb dX2_change_57 rfl (lv_at hl 0 rfl) ?_
      refine va_get (D := D) (ci := 1) (v := .ref (ad 101)) (C := RX2) (T := TX2) (N := 7) hx hb hts inX2 hown hK hP 0 inw_o0 rfl 0 (by decide) fl9 (fun _ h9 => h9) rfl dX2_change_58 ?_
      refine lv_iload_n hx hb dX2_change_61 rfl (lv_at hl 1 rfl) ?_
      refine lv_lload_n hx hb dX2_change_62 rfl (lv_at hl 2 rfl) ?_
      refine va_last hx hb hK hP hD hS 1 3 inw_a1 rfl (x_in (by omega) (by omega)) dX2_change_63 (fun H locs hP hD hS => ?_)
      obtain ⟨f_8, ef_8⟩ : ∃ z9 : Nat → Int64, z9 = (vp_updL (σ.2.2.2 101) (Int32.toNatClampNeg q) z) := ⟨_, rfl⟩
      have hP : va_P D vwCl (inw y ad (tJ (tJ (tJ (tI σ 102 f_4) 103 f_6) 104 f_7) 101 f_8)) H := by rw [ef_8]; exact x_trP hP inw_s1
      have hD : va_D A (inw y ad (tJ (tJ (tJ (tI σ 102 f_4) 103 f_6) 104 f_7) 101 f_8)) := by rw [ef_8]; exact x_trD hD inw_s1
      refine lv_aload_n hx hb dX2_change_64 rfl (lv_at hl 0 rfl) ?_
      refine lv_dup hx hb dX2_change_65 rfl ?_
      refine va_get (D := D) (ci := 1) (v := .int (σ.1 106)) (C := RX2) (T := TX2) (N := 7) hx hb hts inX2 hown hK hP 0 inw_o0 rfl 5 (by decide) fl29 (fun _ h9 => h9) rfl dX2_change_66 ?_
      refine lv_iconst (v := 1) hx hb dX2_change_69 (by decide) ?_
      refine lv_iadd hx hb dX2_change_70 ?_
      refine lv_topi (fun i_9 ei_9 => ?_)
      have vi_9 : i_9.toInt = (σ.1 106).toInt + 1 := by have h9 := x_add ei_9 (by omega) (by omega); omega
      refine va_put (D := D) (ci := 1) (v := .int i_9) (ty := .int) (C := RX2) (T := TX2) (N := 7) hx hb hts inX2 tyX2 tyX2_ok nmX2 hown hK hP hD hS 0 inw_o0 rfl 5 (by decide) fl29 (fun _ h9 => h9) rfl (by decide +kernel) rfl rfl (Nat.le_of_ble_eq_true rfl) dX2_change_71 (fun H locs hP hD hS => ?_)
      have hP : va_P D vwCl (inw y ad (sI (tJ (tJ (tJ (tI σ 102 f_4) 103 f_6) 104 f_7) 101 f_8) 106 i_9)) H := x_trP hP inw_p0_5
      have hD : va_D A (inw y ad (sI (tJ (tJ (tJ (tI σ 102 f_4) 103 f_6) 104 f_7) 101 f_8) 106 i_9)) := x_trD hD inw_p0_5
      refine lv_aload_n hx hb dX2_change_74 rfl (lv_at hl 0 rfl) ?_
      refine lv_aload_n hx hb dX2_change_75 rfl (lv_at hl 0 rfl) ?_
      refine va_get (D := D) (ci := 1) (v := .int i_9) (C := RX2) (T := TX2) (N := 7) hx hb hts inX2 hown hK hP 0 inw_o0 rfl 5 (by decide) fl29 (fun _ h9 => h9) rfl dX2_change_76 ?_
      refine va_put (D := D) (ci := 1) (v := .int i_9) (ty := .int) (C := RX2) (T := TX2) (N := 7) hx hb hts inX2 tyX2 tyX2_ok nmX2 hown hK hP hD hS 0 inw_o0 rfl 6 (by decide) fl32 (fun _ h9 => h9) rfl (by decide +kernel) rfl rfl (Nat.le_of_ble_eq_true rfl) dX2_change_79 (fun H locs hP hD hS => ?_)
      have hP : va_P D vwCl (inw y ad (sI (sI (tJ (tJ (tJ (tI σ 102 f_4) 103 f_6) 104 f_7) 101 f_8) 106 i_9) 107 i_9)) H := x_trP hP inw_p0_6
      have hD : va_D A (inw y ad (sI (sI (tJ (tJ (tJ (tI σ 102 f_4) 103 f_6) 104 f_7) 101 f_8) 106 i_9) 107 i_9)) := x_trD hD inw_p0_6
      have hP : va_P D vwCl (inw y ad (tJ (tJ (tJ (tI (sI (sI σ 106 i_9) 107 i_9) 102 f_4) 103 f_6) 104 f_7) 101 f_8)) H := hP
      have hD : va_D A (inw y ad (tJ (tJ (tJ (tI (sI (sI σ 106 i_9) 107 i_9) 102 f_4) 103 f_6) 104 f_7) 101 f_8)) := hD
      exact x_vretW (u := (i_9, i_9, f_4, f_6, f_7, f_8)) hx hb hr hQ (by (try dsimp only); exact ⟨⟨by omega, by omega, by omega⟩, hvf_4⟩) hP hD hK hS dX2_change_82 hlocks
    · have kc_3 : (σ.1 106).toInt ≥ 40 := by have h9 := c_3; simp only [ge_iff_le, gt_iff_lt, x_lt, x_le, x_eq, ne_eq, Int32.not_lt, Int32.not_le] at h9; simp only [Int32.reduceToInt] at h9; omega
      refine lv_aload_n hx hb dX2_change_18 rfl (lv_at hl 0 rfl) ?_
      refine x_callvW (va_runV (As := []) (rest := []) ⟨hx, hb, hml, hown, hts⟩ (i_dropOldest l D y H.size ad σ hB102) (cwV 0 hts g_i_change_1 rfl rfl rfl (by decide +kernel) ⟨Nat.le_of_ble_eq_true rfl, Nat.le_of_ble_eq_true rfl⟩) (x_preV (q := (RX2, TX2, 7)) hK hP hD (ci := 1) (q0 := 0) rfl inw_o0) rfl rfl hl.1 rfl (lv_room (Nat.le_of_ble_eq_true rfl)) dX2_change_19 ⟨Nat.le_of_ble_eq_true rfl, Nat.le_of_ble_eq_true rfl⟩) hP hD hS hA (fun u H locs hw hP hD hS => ?_)
      obtain ⟨n_10, f_11, f_12, f_13⟩ := u
      try dsimp only at hw
      have hP : va_P D vwCl (inw y ad (tJ (tJ (tI (sI σ 106 n_10) 102 f_11) 103 f_12) 104 f_13)) H := hP
      have hD : va_D A (inw y ad (tJ (tJ (tI (sI σ 106 n_10) 102 f_11) 103 f_12) 104 f_13)) := hD
      replace hw : (n_10.toInt = 39) ∧ bI f_11 0 7 := hw
      obtain ⟨hw, hg_14⟩ := hw
      refine lv_aload_n hx hb dX2_change_22 rfl (lv_at hl 0 rfl) ?_
      refine va_get (D := D) (ci := 1) (v := .ref (ad 102)) (C := RX2) (T := TX2) (N := 7) hx hb hts inX2 hown hK hP 0 inw_o0 rfl 1 (by decide) fl15 (fun _ h9 => h9) rfl dX2_change_23 ?_
      refine lv_aload_n hx hb dX2_change_26 rfl (lv_at hl 0 rfl) ?_
      refine va_get (D := D) (ci := 1) (v := .int n_10) (C := RX2) (T := TX2) (N := 7) hx hb hts inX2 hown hK hP 0 inw_o0 rfl 5 (by decide) fl29 (fun _ h9 => h9) rfl dX2_change_27 ?_
      refine lv_iload_n hx hb dX2_change_30 rfl (lv_at hl 1 rfl) ?_
      refine va_iast hx hb hK hP hD hS 2 2 inw_a2 rfl (x_in (by omega) (by omega)) dX2_change_31 (fun H locs hP hD hS => ?_)
      obtain ⟨f_15, ef_15⟩ : ∃ z9 : Nat → Int32, z9 = (upd f_11 (Int32.toNatClampNeg n_10) q) := ⟨_, rfl⟩
      have hP : va_P D vwCl (inw y ad (tI (tJ (tJ (tI (sI σ 106 n_10) 102 f_11) 103 f_12) 104 f_13) 102 f_15)) H := by rw [ef_15]; exact x_trP hP inw_s2
      have hD : va_D A (inw y ad (tI (tJ (tJ (tI (sI σ 106 n_10) 102 f_11) 103 f_12) 104 f_13) 102 f_15)) := by rw [ef_15]; exact x_trD hD inw_s2
      have hvf_15 : bI f_15 0 7 := by rw [ef_15]; exact b_upd hg_14 (by omega) (by omega)
      refine lv_aload_n hx hb dX2_change_32 rfl (lv_at hl 0 rfl) ?_
      refine va_get (D := D) (ci := 1) (v := .ref (ad 103)) (C := RX2) (T := TX2) (N := 7) hx hb hts inX2 hown hK hP 0 inw_o0 rfl 2 (by decide) fl19 (fun _ h9 => h9) rfl dX2_change_33 ?_
      refine lv_aload_n hx hb dX2_change_36 rfl (lv_at hl 0 rfl) ?_
      refine va_get (D := D) (ci := 1) (v := .int n_10) (C := RX2) (T := TX2) (N := 7) hx hb hts inX2 hown hK hP 0 inw_o0 rfl 5 (by decide) fl29 (fun _ h9 => h9) rfl dX2_change_37 ?_
      refine lv_aload_n hx hb dX2_change_40 rfl (lv_at hl 0 rfl) ?_
      refine va_get (D := D) (ci := 1) (v := .ref (ad 101)) (C := RX2) (T := TX2) (N := 7) hx hb hts inX2 hown hK hP 0 inw_o0 rfl 0 (by decide) fl9 (fun _ h9 => h9) rfl dX2_change_41 ?_
      refine lv_iload_n hx hb dX2_change_44 rfl (lv_at hl 1 rfl) ?_
      refine va_lald hx hb hK hP 1 3 inw_a1 rfl (x_in (by omega) (by omega)) dX2_change_45 ?_
      refine lv_topl (fun j_16 ej_16 => ?_)
      have ej_16 : j_16 = (σ.2.2.2 101) (Int32.toNatClampNeg q) := ej_16
      refine va_last hx hb hK hP hD hS 3 3 inw_a3 rfl (x_in (by omega) (by omega)) dX2_change_46 (fun H locs hP hD hS => ?_)
      obtain ⟨f_17, ef_17⟩ : ∃ z9 : Nat → Int64, z9 = (vp_updL f_12 (Int32.toNatClampNeg n_10) j_16) := ⟨_, rfl⟩
      have hP : va_P D vwCl (inw y ad (tJ (tI (tJ (tJ (tI (sI σ 106 n_10) 102 f_11) 103 f_12) 104 f_13) 102 f_15) 103 f_17)) H := by rw [ef_17]; exact x_trP hP inw_s3
      have hD : va_D A (inw y ad (tJ (tI (tJ (tJ (tI (sI σ 106 n_10) 102 f_11) 103 f_12) 104 f_13) 102 f_15) 103 f_17)) := by rw [ef_17]; exact x_trD hD inw_s3
      refine lv_aload_n hx hb dX2_change_47 rfl (lv_at hl 0 rfl) ?_
      refine va_get (D := D) (ci := 1) (v := .ref (ad 104)) (C := RX2) (T := TX2) (N := 7) hx hb hts inX2 hown hK hP 0 inw_o0 rfl 3 (by decide) fl22 (fun _ h9 => h9) rfl dX2_change_48 ?_
      refine lv_aload_n hx hb dX2_change_51 rfl (lv_at hl 0 rfl) ?_
      refine va_get (D := D) (ci := 1) (v := .int n_10) (C := RX2) (T := TX2) (N := 7) hx hb hts inX2 hown hK hP 0 inw_o0 rfl 5 (by decide) fl29 (fun _ h9 => h9) rfl dX2_change_52 ?_
      refine lv_lload_n hx hb dX2_change_55 rfl (lv_at hl 2 rfl) ?_
      refine va_last hx hb hK hP hD hS 4 3 inw_a4 rfl (x_in (by omega) (by omega)) dX2_change_56 (fun H locs hP hD hS => ?_)
      obtain ⟨f_18, ef_18⟩ : ∃ z9 : Nat → Int64, z9 = (vp_updL f_13 (Int32.toNatClampNeg n_10) z) := ⟨_, rfl⟩
      have hP : va_P D vwCl (inw y ad (tJ (tJ (tI (tJ (tJ (tI (sI σ 106 n_10) 102 f_11) 103 f_12) 104 f_13) 102 f_15) 103 f_17) 104 f_18)) H := by rw [ef_18]; exact x_trP hP inw_s4
      have hD : va_D A (inw y ad (tJ (tJ (tI (tJ (tJ (tI (sI σ 106 n_10) 102 f_11) 103 f_12) 104 f_13) 102 f_15) 103 f_17) 104 f_18)) := by rw [ef_18]; exact x_trD hD inw_s4
      refine lv_aload_n hx hb dX2_change_57 rfl (lv_at hl 0 rfl) ?_
      refine va_get (D := D) (ci := 1) (v := .ref (ad 101)) (C := RX2) (T := TX2) (N := 7) hx hb hts inX2 hown hK hP 0 inw_o0 rfl 0 (by decide) fl9 (fun _ h9 => h9) rfl dX2_change_58 ?_
      refine lv_iload_n hx hb dX2_change_61 rfl (lv_at hl 1 rfl) ?_
      refine lv_lload_n hx hb dX2_change_62 rfl (lv_at hl 2 rfl) ?_
      refine va_last hx hb hK hP hD hS 1 3 inw_a1 rfl (x_in (by omega) (by omega)) dX2_change_63 (fun H locs hP hD hS => ?_)
      obtain ⟨f_19, ef_19⟩ : ∃ z9 : Nat → Int64, z9 = (vp_updL (σ.2.2.2 101) (Int32.toNatClampNeg q) z) := ⟨_, rfl⟩
      have hP : va_P D vwCl (inw y ad (tJ (tJ (tJ (tI (tJ (tJ (tI (sI σ 106 n_10) 102 f_11) 103 f_12) 104 f_13) 102 f_15) 103 f_17) 104 f_18) 101 f_19)) H := by rw [ef_19]; exact x_trP hP inw_s1
      have hD : va_D A (inw y ad (tJ (tJ (tJ (tI (tJ (tJ (tI (sI σ 106 n_10) 102 f_11) 103 f_12) 104 f_13) 102 f_15) 103 f_17) 104 f_18) 101 f_19)) := by rw [ef_19]; exact x_trD hD inw_s1
      refine lv_aload_n hx hb dX2_change_64 rfl (lv_at hl 0 rfl) ?_
      refine lv_dup hx hb dX2_change_65 rfl ?_
      refine va_get (D := D) (ci := 1) (v := .int n_10) (C := RX2) (T := TX2) (N := 7) hx hb hts inX2 hown hK hP 0 inw_o0 rfl 5 (by decide) fl29 (fun _ h9 => h9) rfl dX2_change_66 ?_
      refine lv_iconst (v := 1) hx hb dX2_change_69 (by decide) ?_
      refine lv_iadd hx hb dX2_change_70 ?_
      refine lv_topi (fun i_20 ei_20 => ?_)
      have vi_20 : i_20.toInt = n_10.toInt + 1 := by have h9 := x_add ei_20 (by omega) (by omega); omega
      refine va_put (D := D) (ci := 1) (v := .int i_20) (ty := .int) (C := RX2) (T := TX2) (N := 7) hx hb hts inX2 tyX2 tyX2_ok nmX2 hown hK hP hD hS 0 inw_o0 rfl 5 (by decide) fl29 (fun _ h9 => h9) rfl (by decide +kernel) rfl rfl (Nat.le_of_ble_eq_true rfl) dX2_change_71 (fun H locs hP hD hS => ?_)
      have hP : va_P D vwCl (inw y ad (sI (tJ (tJ (tJ (tI (tJ (tJ (tI (sI σ 106 n_10) 102 f_11) 103 f_12) 104 f_13) 102 f_15) 103 f_17) 104 f_18) 101 f_19) 106 i_20)) H := x_trP hP inw_p0_5
      have hD : va_D A (inw y ad (sI (tJ (tJ (tJ (tI (tJ (tJ (tI (sI σ 106 n_10) 102 f_11) 103 f_12) 104 f_13) 102 f_15) 103 f_17) 104 f_18) 101 f_19) 106 i_20)) := x_trD hD inw_p0_5
      refine lv_aload_n hx hb dX2_change_74 rfl (lv_at hl 0 rfl) ?_
      refine lv_aload_n hx hb dX2_change_75 rfl (lv_at hl 0 rfl) ?_
      refine va_get (D := D) (ci := 1) (v := .int i_20) (C := RX2) (T := TX2) (N := 7) hx hb hts inX2 hown hK hP 0 inw_o0 rfl 5 (by decide) fl29 (fun _ h9 => h9) rfl dX2_change_76 ?_
      refine va_put (D := D) (ci := 1) (v := .int i_20) (ty := .int) (C := RX2) (T := TX2) (N := 7) hx hb hts inX2 tyX2 tyX2_ok nmX2 hown hK hP hD hS 0 inw_o0 rfl 6 (by decide) fl32 (fun _ h9 => h9) rfl (by decide +kernel) rfl rfl (Nat.le_of_ble_eq_true rfl) dX2_change_79 (fun H locs hP hD hS => ?_)
      have hP : va_P D vwCl (inw y ad (sI (sI (tJ (tJ (tJ (tI (tJ (tJ (tI (sI σ 106 n_10) 102 f_11) 103 f_12) 104 f_13) 102 f_15) 103 f_17) 104 f_18) 101 f_19) 106 i_20) 107 i_20)) H := x_trP hP inw_p0_6
      have hD : va_D A (inw y ad (sI (sI (tJ (tJ (tJ (tI (tJ (tJ (tI (sI σ 106 n_10) 102 f_11) 103 f_12) 104 f_13) 102 f_15) 103 f_17) 104 f_18) 101 f_19) 106 i_20) 107 i_20)) := x_trD hD inw_p0_6
      have hP : va_P D vwCl (inw y ad (tJ (tJ (tJ (tI (sI (sI σ 106 i_20) 107 i_20) 102 f_15) 103 f_17) 104 f_18) 101 f_19)) H := hP
      have hD : va_D A (inw y ad (tJ (tJ (tJ (tI (sI (sI σ 106 i_20) 107 i_20) 102 f_15) 103 f_17) 104 f_18) 101 f_19)) := hD
      exact x_vretW (u := (i_20, i_20, f_15, f_17, f_18, f_19)) hx hb hr hQ (by (try dsimp only); exact ⟨⟨by omega, by omega, by omega⟩, hvf_15⟩) hP hD hK hS dX2_change_82 hlocks
  · have kc_2 : r_1.toInt = 0 := by have h9 := c_2; simp only [ge_iff_le, gt_iff_lt, x_lt, x_le, x_eq, ne_eq, Int32.not_lt, Int32.not_le] at h9; simp only [Int32.reduceToInt] at h9; omega
    have hP : va_P D vwCl (inw y ad (tJ (tJ (tJ (tI (sI (sI σ 106 (σ.1 106)) 107 (σ.1 107)) 102 (σ.2.2.1 102)) 103 (σ.2.2.2 103)) 104 (σ.2.2.2 104)) 101 (σ.2.2.2 101))) H := hP
    have hD : va_D A (inw y ad (tJ (tJ (tJ (tI (sI (sI σ 106 (σ.1 106)) 107 (σ.1 107)) 102 (σ.2.2.1 102)) 103 (σ.2.2.2 103)) 104 (σ.2.2.2 104)) 101 (σ.2.2.2 101))) := hD
    exact x_vretW (u := ((σ.1 106), (σ.1 107), (σ.2.2.1 102), (σ.2.2.2 103), (σ.2.2.2 104), (σ.2.2.2 101))) hx hb hr hQ (by (try dsimp only); exact ⟨⟨by omega, by omega, by omega⟩, hB102⟩) hP hD hK hS dX2_change_8 hlocks

def v_i_stepBack : List Cond := .code yX2_stepBack cX2_stepBack 1 (some .boolean) :: ([.fieldLink RX2 29 "SlopeRunner$Inputs" "done" "I", .fieldLink RX2 9 "SlopeRunner$Inputs" "value" "[J", .fieldLink RX2 15 "SlopeRunner$Inputs" "changed" "[I", .fieldLink RX2 19 "SlopeRunner$Inputs" "before" "[J"] ++ wsX20)
set_option maxHeartbeats 4000000 in
set_option maxRecDepth 100000 in
theorem i_stepBack (l : Launch) (D : va_G) (y : Nat → ClassId) (sz : Nat) (ad : Nat → Nat) (σ : OS) (hdn0 : 0 ≤ (σ.1 106).toInt) (hdn1 : (σ.1 106).toInt ≤ (σ.1 107).toInt) (hkn : (σ.1 107).toInt ≤ 40)  (hB102 : bI (σ.2.2.1 102) 0 7) : Met l yX2_stepBack v_i_stepBack ({ frames := 0, cells := 0, slots := 0, locals := 0 } : Room) (va_Pc [.ref (ad 100)] (xPre D (xT y) (inw y ad σ) sz)) (va_Qi (fun (r : Int32) (u : Int32 × (Nat → Int64)) => 0 ≤ u.1.toInt ∧ u.1.toInt ≤ (σ.1 107).toInt) (fun (u : Int32 × (Nat → Int64)) => xB D (xT y) (va_A (inw y ad σ) sz) (inw y ad (tJ (sI σ 106 u.1) 101 u.2))) (va_A (inw y ad σ) sz)) 0 0 (va_A (inw y ad σ) sz) := by
  refine x_meti (cc := cX2_stepBack) (maxL := 1) (by decide) rfl (Nat.le_of_ble_eq_true rfl) ?_
  intro p e s m below meth c A H locs Q hx hb hml hown hts hr hlocks hmn hA hP hK hD hS ls hl hQ
  have hl : lv_has ls 1 [(0, .ref (ad 100))] := hl
  have fl29 := hts (.fieldLink RX2 29 "SlopeRunner$Inputs" "done" "I") (List.mem_of_getElem? (i := 1) rfl)
  have inX2 : ∀ w ∈ wsX20, w ∈ v_i_stepBack := (fun w h => List.mem_cons_of_mem _ (List.mem_append_right _ h))
  have kk_0 : (0 : Int32).toInt = 0 := rfl
  have kk_1 : (1 : Int32).toInt = 1 := rfl
  have fl9 := hts (.fieldLink RX2 9 "SlopeRunner$Inputs" "value" "[J") (List.mem_of_getElem? (i := 2) rfl)
  have fl15 := hts (.fieldLink RX2 15 "SlopeRunner$Inputs" "changed" "[I") (List.mem_of_getElem? (i := 3) rfl)
  have fl19 := hts (.fieldLink RX2 19 "SlopeRunner$Inputs" "before" "[J") (List.mem_of_getElem? (i := 4) rfl)
  refine lv_aload_n hx hb dX2_stepBack_0 rfl (lv_at hl 0 rfl) ?_
  refine va_get (D := D) (ci := 1) (v := .int (σ.1 106)) (C := RX2) (T := TX2) (N := 7) hx hb hts inX2 hown hK hP 0 inw_o0 rfl 5 (by decide) fl29 (fun _ h9 => h9) rfl dX2_stepBack_1 ?_
  refine lv_if_gt (tgt := 9) hx hb dX2_stepBack_4 (by decide) (fun c_1 => ?_) (fun c_1 => ?_)
  · have kc_1 : (σ.1 106).toInt > 0 := by have h9 := c_1; simp only [ge_iff_le, gt_iff_lt, x_lt, x_le, x_eq, ne_eq, Int32.not_lt, Int32.not_le] at h9; simp only [Int32.reduceToInt] at h9; omega
    refine lv_aload_n hx hb dX2_stepBack_9 rfl (lv_at hl 0 rfl) ?_
    refine lv_dup hx hb dX2_stepBack_10 rfl ?_
    refine va_get (D := D) (ci := 1) (v := .int (σ.1 106)) (C := RX2) (T := TX2) (N := 7) hx hb hts inX2 hown hK hP 0 inw_o0 rfl 5 (by decide) fl29 (fun _ h9 => h9) rfl dX2_stepBack_11 ?_
    refine lv_iconst (v := 1) hx hb dX2_stepBack_14 (by decide) ?_
    refine lv_isub hx hb dX2_stepBack_15 ?_
    refine lv_topi (fun i_2 ei_2 => ?_)
    have vi_2 : i_2.toInt = (σ.1 106).toInt - 1 := by have h9 := x_sub ei_2 (by omega) (by omega); omega
    refine va_put (D := D) (ci := 1) (v := .int i_2) (ty := .int) (C := RX2) (T := TX2) (N := 7) hx hb hts inX2 tyX2 tyX2_ok nmX2 hown hK hP hD hS 0 inw_o0 rfl 5 (by decide) fl29 (fun _ h9 => h9) rfl (by decide +kernel) rfl rfl (Nat.le_of_ble_eq_true rfl) dX2_stepBack_16 (fun H locs hP hD hS => ?_)
    have hP : va_P D vwCl (inw y ad (sI σ 106 i_2)) H := x_trP hP inw_p0_5
    have hD : va_D A (inw y ad (sI σ 106 i_2)) := x_trD hD inw_p0_5
    refine lv_aload_n hx hb dX2_stepBack_19 rfl (lv_at hl 0 rfl) ?_
    refine va_get (D := D) (ci := 1) (v := .ref (ad 101)) (C := RX2) (T := TX2) (N := 7) hx hb hts inX2 hown hK hP 0 inw_o0 rfl 0 (by decide) fl9 (fun _ h9 => h9) rfl dX2_stepBack_20 ?_
    refine lv_aload_n hx hb dX2_stepBack_23 rfl (lv_at hl 0 rfl) ?_
    refine va_get (D := D) (ci := 1) (v := .ref (ad 102)) (C := RX2) (T := TX2) (N := 7) hx hb hts inX2 hown hK hP 0 inw_o0 rfl 1 (by decide) fl15 (fun _ h9 => h9) rfl dX2_stepBack_24 ?_
    refine lv_aload_n hx hb dX2_stepBack_27 rfl (lv_at hl 0 rfl) ?_
    refine va_get (D := D) (ci := 1) (v := .int i_2) (C := RX2) (T := TX2) (N := 7) hx hb hts inX2 hown hK hP 0 inw_o0 rfl 5 (by decide) fl29 (fun _ h9 => h9) rfl dX2_stepBack_28 ?_
    refine va_iald hx hb hK hP 2 2 inw_a2 rfl (x_in (by omega) (by omega)) dX2_stepBack_31 ?_
    refine lv_topi (fun i_3 ei_3 => ?_)
    have ei_3 : i_3 = (σ.2.2.1 102) (Int32.toNatClampNeg i_2) := ei_3
    have bi_3 := b_at hB102 ei_3
    refine lv_aload_n hx hb dX2_stepBack_32 rfl (lv_at hl 0 rfl) ?_
    refine va_get (D := D) (ci := 1) (v := .ref (ad 103)) (C := RX2) (T := TX2) (N := 7) hx hb hts inX2 hown hK hP 0 inw_o0 rfl 2 (by decide) fl19 (fun _ h9 => h9) rfl dX2_stepBack_33 ?_
    refine lv_aload_n hx hb dX2_stepBack_36 rfl (lv_at hl 0 rfl) ?_
    refine va_get (D := D) (ci := 1) (v := .int i_2) (C := RX2) (T := TX2) (N := 7) hx hb hts inX2 hown hK hP 0 inw_o0 rfl 5 (by decide) fl29 (fun _ h9 => h9) rfl dX2_stepBack_37 ?_
    refine va_lald hx hb hK hP 3 3 inw_a3 rfl (x_in (by omega) (by omega)) dX2_stepBack_40 ?_
    refine lv_topl (fun j_4 ej_4 => ?_)
    have ej_4 : j_4 = (σ.2.2.2 103) (Int32.toNatClampNeg i_2) := ej_4
    refine va_last hx hb hK hP hD hS 1 3 inw_a1 rfl (x_in (by omega) (by omega)) dX2_stepBack_41 (fun H locs hP hD hS => ?_)
    obtain ⟨f_5, ef_5⟩ : ∃ z9 : Nat → Int64, z9 = (vp_updL (σ.2.2.2 101) (Int32.toNatClampNeg i_3) j_4) := ⟨_, rfl⟩
    have hP : va_P D vwCl (inw y ad (tJ (sI σ 106 i_2) 101 f_5)) H := by rw [ef_5]; exact x_trP hP inw_s1
    have hD : va_D A (inw y ad (tJ (sI σ 106 i_2) 101 f_5)) := by rw [ef_5]; exact x_trD hD inw_s1
    refine lv_iconst (v := 1) hx hb dX2_stepBack_42 (by decide) ?_
    exact x_zretW (v := 1) (u := (i_2, f_5)) hx hb hr hQ rfl (by (try dsimp only); exact ⟨by omega, by omega⟩) hP hD hK hS dX2_stepBack_43 hlocks
  · have kc_1 : (σ.1 106).toInt ≤ 0 := by have h9 := c_1; simp only [ge_iff_le, gt_iff_lt, x_lt, x_le, x_eq, ne_eq, Int32.not_lt, Int32.not_le] at h9; simp only [Int32.reduceToInt] at h9; omega
    refine lv_iconst (v := 0) hx hb dX2_stepBack_7 (by decide) ?_
    have hP : va_P D vwCl (inw y ad (tJ (sI σ 106 (σ.1 106)) 101 (σ.2.2.2 101))) H := hP
    have hD : va_D A (inw y ad (tJ (sI σ 106 (σ.1 106)) 101 (σ.2.2.2 101))) := hD
    exact x_zretW (v := 0) (u := ((σ.1 106), (σ.2.2.2 101))) hx hb hr hQ rfl (by (try dsimp only); exact ⟨by omega, by omega⟩) hP hD hK hS dX2_stepBack_8 hlocks

def v_i_stepOn : List Cond := .code yX2_stepOn cX2_stepOn 1 (some .boolean) :: ([.fieldLink RX2 29 "SlopeRunner$Inputs" "done" "I", .fieldLink RX2 32 "SlopeRunner$Inputs" "known" "I", .fieldLink RX2 9 "SlopeRunner$Inputs" "value" "[J", .fieldLink RX2 15 "SlopeRunner$Inputs" "changed" "[I", .fieldLink RX2 22 "SlopeRunner$Inputs" "after" "[J"] ++ wsX20)
set_option maxHeartbeats 4000000 in
set_option maxRecDepth 100000 in
theorem i_stepOn (l : Launch) (D : va_G) (y : Nat → ClassId) (sz : Nat) (ad : Nat → Nat) (σ : OS) (hdn0 : 0 ≤ (σ.1 106).toInt) (hdn1 : (σ.1 106).toInt ≤ (σ.1 107).toInt) (hkn : (σ.1 107).toInt ≤ 40)  (hB102 : bI (σ.2.2.1 102) 0 7) : Met l yX2_stepOn v_i_stepOn ({ frames := 0, cells := 0, slots := 0, locals := 0 } : Room) (va_Pc [.ref (ad 100)] (xPre D (xT y) (inw y ad σ) sz)) (va_Qi (fun (r : Int32) (u : Int32 × (Nat → Int64)) => 0 ≤ u.1.toInt ∧ u.1.toInt ≤ (σ.1 107).toInt) (fun (u : Int32 × (Nat → Int64)) => xB D (xT y) (va_A (inw y ad σ) sz) (inw y ad (tJ (sI σ 106 u.1) 101 u.2))) (va_A (inw y ad σ) sz)) 0 0 (va_A (inw y ad σ) sz) := by
  refine x_meti (cc := cX2_stepOn) (maxL := 1) (by decide) rfl (Nat.le_of_ble_eq_true rfl) ?_
  intro p e s m below meth c A H locs Q hx hb hml hown hts hr hlocks hmn hA hP hK hD hS ls hl hQ
  have hl : lv_has ls 1 [(0, .ref (ad 100))] := hl
  have fl29 := hts (.fieldLink RX2 29 "SlopeRunner$Inputs" "done" "I") (List.mem_of_getElem? (i := 1) rfl)
  have inX2 : ∀ w ∈ wsX20, w ∈ v_i_stepOn := (fun w h => List.mem_cons_of_mem _ (List.mem_append_right _ h))
  have fl32 := hts (.fieldLink RX2 32 "SlopeRunner$Inputs" "known" "I") (List.mem_of_getElem? (i := 2) rfl)
  have fl9 := hts (.fieldLink RX2 9 "SlopeRunner$Inputs" "value" "[J") (List.mem_of_getElem? (i := 3) rfl)
  have fl15 := hts (.fieldLink RX2 15 "SlopeRunner$Inputs" "changed" "[I") (List.mem_of_getElem? (i := 4) rfl)
  have fl22 := hts (.fieldLink RX2 22 "SlopeRunner$Inputs" "after" "[J") (List.mem_of_getElem? (i := 5) rfl)
  have kk_1 : (1 : Int32).toInt = 1 := rfl
  have kk_0 : (0 : Int32).toInt = 0 := rfl
  refine lv_aload_n hx hb dX2_stepOn_0 rfl (lv_at hl 0 rfl) ?_
  refine va_get (D := D) (ci := 1) (v := .int (σ.1 106)) (C := RX2) (T := TX2) (N := 7) hx hb hts inX2 hown hK hP 0 inw_o0 rfl 5 (by decide) fl29 (fun _ h9 => h9) rfl dX2_stepOn_1 ?_
  refine lv_aload_n hx hb dX2_stepOn_4 rfl (lv_at hl 0 rfl) ?_
  refine va_get (D := D) (ci := 1) (v := .int (σ.1 107)) (C := RX2) (T := TX2) (N := 7) hx hb hts inX2 hown hK hP 0 inw_o0 rfl 6 (by decide) fl32 (fun _ h9 => h9) rfl dX2_stepOn_5 ?_
  refine lv_icmp_lt (tgt := 13) hx hb dX2_stepOn_8 (by decide) (fun c_1 => ?_) (fun c_1 => ?_)
  · have kc_1 : (σ.1 106).toInt < (σ.1 107).toInt := by have h9 := c_1; simp only [ge_iff_le, gt_iff_lt, x_lt, x_le, x_eq, ne_eq, Int32.not_lt, Int32.not_le] at h9; omega
    refine lv_aload_n hx hb dX2_stepOn_13 rfl (lv_at hl 0 rfl) ?_
    refine va_get (D := D) (ci := 1) (v := .ref (ad 101)) (C := RX2) (T := TX2) (N := 7) hx hb hts inX2 hown hK hP 0 inw_o0 rfl 0 (by decide) fl9 (fun _ h9 => h9) rfl dX2_stepOn_14 ?_
    refine lv_aload_n hx hb dX2_stepOn_17 rfl (lv_at hl 0 rfl) ?_
    refine va_get (D := D) (ci := 1) (v := .ref (ad 102)) (C := RX2) (T := TX2) (N := 7) hx hb hts inX2 hown hK hP 0 inw_o0 rfl 1 (by decide) fl15 (fun _ h9 => h9) rfl dX2_stepOn_18 ?_
    refine lv_aload_n hx hb dX2_stepOn_21 rfl (lv_at hl 0 rfl) ?_
    refine va_get (D := D) (ci := 1) (v := .int (σ.1 106)) (C := RX2) (T := TX2) (N := 7) hx hb hts inX2 hown hK hP 0 inw_o0 rfl 5 (by decide) fl29 (fun _ h9 => h9) rfl dX2_stepOn_22 ?_
    refine va_iald hx hb hK hP 2 2 inw_a2 rfl (x_in (by omega) (by omega)) dX2_stepOn_25 ?_
    refine lv_topi (fun i_2 ei_2 => ?_)
    have ei_2 : i_2 = (σ.2.2.1 102) (Int32.toNatClampNeg (σ.1 106)) := ei_2
    have bi_2 := b_at hB102 ei_2
    refine lv_aload_n hx hb dX2_stepOn_26 rfl (lv_at hl 0 rfl) ?_
    refine va_get (D := D) (ci := 1) (v := .ref (ad 104)) (C := RX2) (T := TX2) (N := 7) hx hb hts inX2 hown hK hP 0 inw_o0 rfl 3 (by decide) fl22 (fun _ h9 => h9) rfl dX2_stepOn_27 ?_
    refine lv_aload_n hx hb dX2_stepOn_30 rfl (lv_at hl 0 rfl) ?_
    refine va_get (D := D) (ci := 1) (v := .int (σ.1 106)) (C := RX2) (T := TX2) (N := 7) hx hb hts inX2 hown hK hP 0 inw_o0 rfl 5 (by decide) fl29 (fun _ h9 => h9) rfl dX2_stepOn_31 ?_
    refine va_lald hx hb hK hP 4 3 inw_a4 rfl (x_in (by omega) (by omega)) dX2_stepOn_34 ?_
    refine lv_topl (fun j_3 ej_3 => ?_)
    have ej_3 : j_3 = (σ.2.2.2 104) (Int32.toNatClampNeg (σ.1 106)) := ej_3
    refine va_last hx hb hK hP hD hS 1 3 inw_a1 rfl (x_in (by omega) (by omega)) dX2_stepOn_35 (fun H locs hP hD hS => ?_)
    obtain ⟨f_4, ef_4⟩ : ∃ z9 : Nat → Int64, z9 = (vp_updL (σ.2.2.2 101) (Int32.toNatClampNeg i_2) j_3) := ⟨_, rfl⟩
    have hP : va_P D vwCl (inw y ad (tJ σ 101 f_4)) H := by rw [ef_4]; exact x_trP hP inw_s1
    have hD : va_D A (inw y ad (tJ σ 101 f_4)) := by rw [ef_4]; exact x_trD hD inw_s1
    refine lv_aload_n hx hb dX2_stepOn_36 rfl (lv_at hl 0 rfl) ?_
    refine lv_dup hx hb dX2_stepOn_37 rfl ?_
    refine va_get (D := D) (ci := 1) (v := .int (σ.1 106)) (C := RX2) (T := TX2) (N := 7) hx hb hts inX2 hown hK hP 0 inw_o0 rfl 5 (by decide) fl29 (fun _ h9 => h9) rfl dX2_stepOn_38 ?_
    refine lv_iconst (v := 1) hx hb dX2_stepOn_41 (by decide) ?_
    refine lv_iadd hx hb dX2_stepOn_42 ?_
    refine lv_topi (fun i_5 ei_5 => ?_)
    have vi_5 : i_5.toInt = (σ.1 106).toInt + 1 := by have h9 := x_add ei_5 (by omega) (by omega); omega
    refine va_put (D := D) (ci := 1) (v := .int i_5) (ty := .int) (C := RX2) (T := TX2) (N := 7) hx hb hts inX2 tyX2 tyX2_ok nmX2 hown hK hP hD hS 0 inw_o0 rfl 5 (by decide) fl29 (fun _ h9 => h9) rfl (by decide +kernel) rfl rfl (Nat.le_of_ble_eq_true rfl) dX2_stepOn_43 (fun H locs hP hD hS => ?_)
    have hP : va_P D vwCl (inw y ad (sI (tJ σ 101 f_4) 106 i_5)) H := x_trP hP inw_p0_5
    have hD : va_D A (inw y ad (sI (tJ σ 101 f_4) 106 i_5)) := x_trD hD inw_p0_5
    refine lv_iconst (v := 1) hx hb dX2_stepOn_46 (by decide) ?_
    have hP : va_P D vwCl (inw y ad (tJ (sI σ 106 i_5) 101 f_4)) H := hP
    have hD : va_D A (inw y ad (tJ (sI σ 106 i_5) 101 f_4)) := hD
    exact x_zretW (v := 1) (u := (i_5, f_4)) hx hb hr hQ rfl (by (try dsimp only); exact ⟨by omega, by omega⟩) hP hD hK hS dX2_stepOn_47 hlocks
  · have kc_1 : (σ.1 106).toInt ≥ (σ.1 107).toInt := by have h9 := c_1; simp only [ge_iff_le, gt_iff_lt, x_lt, x_le, x_eq, ne_eq, Int32.not_lt, Int32.not_le] at h9; omega
    refine lv_iconst (v := 0) hx hb dX2_stepOn_11 (by decide) ?_
    have hP : va_P D vwCl (inw y ad (tJ (sI σ 106 (σ.1 106)) 101 (σ.2.2.2 101))) H := hP
    have hD : va_D A (inw y ad (tJ (sI σ 106 (σ.1 106)) 101 (σ.2.2.2 101))) := hD
    exact x_zretW (v := 0) (u := ((σ.1 106), (σ.2.2.2 101))) hx hb hr hQ rfl (by (try dsimp only); exact ⟨by omega, by omega⟩) hP hD hK hS dX2_stepOn_12 hlocks

def v_g_forget : List Cond := .code yX1_forget cX1_forget 1 none :: ([.fieldLink RX1 20 "SlopeRunner$Grouping" "inputs" "I"] ++ wsX10)
set_option maxHeartbeats 4000000 in
set_option maxRecDepth 100000 in
theorem g_forget (l : Launch) (D : va_G) (y : Nat → ClassId) (sz : Nat) (ad : Nat → Nat) (σ : OS)  : Met l yX1_forget v_g_forget ({ frames := 0, cells := 0, slots := 0, locals := 0 } : Room) (va_Pc [.ref (ad 180)] (xPre D (xT y) (grw y ad σ) sz)) (va_Qv (fun (u : Int32) => u.toInt = 0) (fun (u : Int32) => xB D (xT y) (va_A (grw y ad σ) sz) (grw y ad (sI σ 183 u))) (va_A (grw y ad σ) sz)) 0 0 (va_A (grw y ad σ) sz) := by
  refine x_metv (cc := cX1_forget) (maxL := 1) (by decide) rfl (Nat.le_of_ble_eq_true rfl) ?_
  intro p e s m below meth c A H locs Q hx hb hml hown hts hr hlocks hmn hA hP hK hD hS ls hl hQ
  have hl : lv_has ls 1 [(0, .ref (ad 180))] := hl
  have fl20 := hts (.fieldLink RX1 20 "SlopeRunner$Grouping" "inputs" "I") (List.mem_of_getElem? (i := 1) rfl)
  have inX1 : ∀ w ∈ wsX10, w ∈ v_g_forget := (fun w h => List.mem_cons_of_mem _ (List.mem_append_right _ h))
  refine lv_aload_n hx hb dX1_forget_0 rfl (lv_at hl 0 rfl) ?_
  refine lv_iconst (v := 0) hx hb dX1_forget_1 (by decide) ?_
  refine va_put (D := D) (ci := 0) (v := .int 0) (ty := .int) (C := RX1) (T := TX1) (N := 3) hx hb hts inX1 tyX1 tyX1_ok nmX1 hown hK hP hD hS 0 grw_o0 rfl 2 (by decide) fl20 (fun _ h9 => h9) rfl (by decide +kernel) rfl rfl (Nat.le_of_ble_eq_true rfl) dX1_forget_2 (fun H locs hP hD hS => ?_)
  have hP : va_P D vwCl (grw y ad (sI σ 183 0)) H := x_trP hP grw_p0_2
  have hD : va_D A (grw y ad (sI σ 183 0)) := x_trD hD grw_p0_2
  exact x_vretW (u := 0) hx hb hr hQ rfl hP hD hK hS dX1_forget_5 hlocks

def v_g_begin : List Cond := .code yX1_begin cX1_begin 3 none :: ([.fieldLink RX1 20 "SlopeRunner$Grouping" "inputs" "I", .fieldLink RX1 17 "SlopeRunner$Grouping" "apart" "[I"] ++ wsX10)
set_option maxHeartbeats 4000000 in
set_option maxRecDepth 100000 in
theorem g_begin (l : Launch) (D : va_G) (y : Nat → ClassId) (sz : Nat) (ad : Nat → Nat) (σ : OS) (q : Int32) : Met l yX1_begin v_g_begin ({ frames := 0, cells := 0, slots := 0, locals := 0 } : Room) (va_Pc [.ref (ad 180), .int q] (xPre D (xT y) (grw y ad σ) sz)) (va_Qv (fun (u : Int32 × (Nat → Int32)) => 0 ≤ u.1.toInt ∧ u.1.toInt ≤ 8) (fun (u : Int32 × (Nat → Int32)) => xB D (xT y) (va_A (grw y ad σ) sz) (grw y ad (tI (sI σ 183 u.1) 182 u.2))) (va_A (grw y ad σ) sz)) 0 0 (va_A (grw y ad σ) sz) := by
  refine x_metv (cc := cX1_begin) (maxL := 3) (by decide) rfl (Nat.le_of_ble_eq_true rfl) ?_
  intro p e s m below meth c A H locs Q hx hb hml hown hts hr hlocks hmn hA hP hK hD hS ls hl hQ
  have hl : lv_has ls 3 [(0, .ref (ad 180)), (1, .int q)] := hl
  have kk_0 : (0 : Int32).toInt = 0 := rfl
  have fl20 := hts (.fieldLink RX1 20 "SlopeRunner$Grouping" "inputs" "I") (List.mem_of_getElem? (i := 1) rfl)
  have inX1 : ∀ w ∈ wsX10, w ∈ v_g_begin := (fun w h => List.mem_cons_of_mem _ (List.mem_append_right _ h))
  have fl17 := hts (.fieldLink RX1 17 "SlopeRunner$Grouping" "apart" "[I") (List.mem_of_getElem? (i := 2) rfl)
  have kk_8 : (8 : Int32).toInt = 8 := rfl
  have kk_1 : (1 : Int32).toInt = 1 := rfl
  refine lv_aload_n hx hb dX1_begin_0 rfl (lv_at hl 0 rfl) ?_
  refine lv_iload_n hx hb dX1_begin_1 rfl (lv_at hl 1 rfl) ?_
  refine lv_if_lt (tgt := 15) hx hb dX1_begin_2 (by decide) (fun c_1 => ?_) (fun c_1 => ?_)
  · have kc_1 : q.toInt < 0 := by have h9 := c_1; simp only [ge_iff_le, gt_iff_lt, x_lt, x_le, x_eq, ne_eq, Int32.not_lt, Int32.not_le] at h9; simp only [Int32.reduceToInt] at h9; omega
    refine lv_iconst (v := 0) hx hb dX1_begin_15 (by decide) ?_
    refine va_put (D := D) (ci := 0) (v := .int 0) (ty := .int) (C := RX1) (T := TX1) (N := 3) hx hb hts inX1 tyX1 tyX1_ok nmX1 hown hK hP hD hS 0 grw_o0 rfl 2 (by decide) fl20 (fun _ h9 => h9) rfl (by decide +kernel) rfl rfl (Nat.le_of_ble_eq_true rfl) dX1_begin_16 (fun H locs hP hD hS => ?_)
    have hP : va_P D vwCl (grw y ad (sI σ 183 0)) H := x_trP hP grw_p0_2
    have hD : va_D A (grw y ad (sI σ 183 0)) := x_trD hD grw_p0_2
    refine lv_iconst (v := 0) hx hb dX1_begin_19 (by decide) ?_
    refine lv_istore_n (lv' := [(2, .int 0), (0, .ref (ad 180)), (1, .int q)]) hx hb dX1_begin_20 rfl hl (by decide) rfl (fun ls hl => ?_)
    have l00 : (0 : Int32).toInt = 0 := rfl
    have hP : va_P D vwCl (grw y ad (tI (sI σ 183 0) 182 (σ.2.2.1 182))) H := hP
    have hD : va_D A (grw y ad (tI (sI σ 183 0) 182 (σ.2.2.1 182))) := hD
    have loop : ∀ (fu : Nat) (i : Int32) (fa : Nat → Int32) (H : Heap) (locs : List Loc) (ls : Array Slot), (0 ≤ i.toInt) → (i.toInt ≤ 8) → (8 - i.toInt < (fu : Int)) → va_P D vwCl (grw y ad (tI (sI σ 183 0) 182 fa)) H → va_D A (grw y ad (tI (sI σ 183 0) 182 fa)) → va_S A s.heap H locs → lv_has ls 3 [(2, .int i), (1, .int q), (0, .ref (ad 180))] → W p l e ({ frames := 0, cells := 0, slots := 0, locals := 0 } : Room) s m ([.ref (ad 180), .int q] : List Value).toArray below meth c H locs 0 0 Q (F0 m 21 ls []) := by
      intro fu
      induction fu with
      | zero =>
        intro i fa H locs ls hi0 hi1 hm
        exact absurd hm (by omega)
      | succ fu ih_loop =>
        intro i fa H locs ls hi0 hi1 hm hP hD hS hl
        refine lv_iload_n hx hb dX1_begin_21 rfl (lv_at hl 0 rfl) ?_
        refine lv_aload_n hx hb dX1_begin_22 rfl (lv_at hl 2 rfl) ?_
        refine va_get (D := D) (ci := 0) (v := .ref (ad 182)) (C := RX1) (T := TX1) (N := 3) hx hb hts inX1 hown hK hP 0 grw_o0 rfl 1 (by decide) fl17 (fun _ h9 => h9) rfl dX1_begin_23 ?_
        refine va_alen hx hb hK hP 2 2 grw_a2 rfl (v := 8) rfl dX1_begin_26 ?_
        refine lv_icmp_ge (tgt := 43) hx hb dX1_begin_27 (by decide) (fun c_2 => ?_) (fun c_2 => ?_)
        · have kc_2 : i.toInt ≥ 8 := by have h9 := c_2; simp only [ge_iff_le, gt_iff_lt, x_lt, x_le, x_eq, ne_eq, Int32.not_lt, Int32.not_le] at h9; simp only [Int32.reduceToInt] at h9; omega
          exact x_vretW (u := (0, fa)) hx hb hr hQ (by (try dsimp only); exact ⟨by omega, by omega⟩) hP hD hK hS dX1_begin_43 hlocks
        · have kc_2 : i.toInt < 8 := by have h9 := c_2; simp only [ge_iff_le, gt_iff_lt, x_lt, x_le, x_eq, ne_eq, Int32.not_lt, Int32.not_le] at h9; simp only [Int32.reduceToInt] at h9; omega
          refine lv_aload_n hx hb dX1_begin_30 rfl (lv_at hl 2 rfl) ?_
          refine va_get (D := D) (ci := 0) (v := .ref (ad 182)) (C := RX1) (T := TX1) (N := 3) hx hb hts inX1 hown hK hP 0 grw_o0 rfl 1 (by decide) fl17 (fun _ h9 => h9) rfl dX1_begin_31 ?_
          refine lv_iload_n hx hb dX1_begin_34 rfl (lv_at hl 0 rfl) ?_
          refine lv_iconst (v := 0) hx hb dX1_begin_35 (by decide) ?_
          refine va_iast hx hb hK hP hD hS 2 2 grw_a2 rfl (x_in (by omega) (by omega)) dX1_begin_36 (fun H locs hP hD hS => ?_)
          obtain ⟨f_3, ef_3⟩ : ∃ z9 : Nat → Int32, z9 = (upd fa (Int32.toNatClampNeg i) 0) := ⟨_, rfl⟩
          have hP : va_P D vwCl (grw y ad (tI (tI (sI σ 183 0) 182 fa) 182 f_3)) H := by rw [ef_3]; exact x_trP hP grw_s2
          have hD : va_D A (grw y ad (tI (tI (sI σ 183 0) 182 fa) 182 f_3)) := by rw [ef_3]; exact x_trD hD grw_s2
          obtain ⟨i_4, ei_4⟩ : ∃ z9 : Int32, z9 = i + 1 := ⟨_, rfl⟩
          have vi_4 : i_4.toInt = i.toInt + 1 := by have h9 := x_add ei_4 (by omega) (by omega); omega
          refine lv_iinc (v := i_4) (lv' := [(2, .int i_4), (1, .int q), (0, .ref (ad 180))]) hx hb dX1_begin_37 hl (k := 0) rfl (by rw [ei_4]; rfl) (by decide) rfl (fun ls hl => ?_)
          refine lv_goto (tgt := 21) hx hb dX1_begin_40 (by decide) ?_
          have hP : va_P D vwCl (grw y ad (tI (sI σ 183 0) 182 f_3)) H := hP
          have hD : va_D A (grw y ad (tI (sI σ 183 0) 182 f_3)) := hD
          exact ih_loop i_4 f_3 H locs ls (by omega) (by omega) (by omega) hP hD hS (lv_sub hl [0, 1, 2] rfl)
    exact loop 9 0 (σ.2.2.1 182) H locs ls (by decide) (by first | decide | omega) (by omega) hP hD hS (lv_sub hl [0, 2, 1] rfl)
  · have kc_1 : q.toInt ≥ 0 := by have h9 := c_1; simp only [ge_iff_le, gt_iff_lt, x_lt, x_le, x_eq, ne_eq, Int32.not_lt, Int32.not_le] at h9; simp only [Int32.reduceToInt] at h9; omega
    refine lv_iload_n hx hb dX1_begin_5 rfl (lv_at hl 1 rfl) ?_
    refine lv_bipush (v := 8) hx hb dX1_begin_6 (by decide) ?_
    refine lv_icmp_gt (tgt := 15) hx hb dX1_begin_8 (by decide) (fun c_5 => ?_) (fun c_5 => ?_)
    · have kc_5 : q.toInt > 8 := by have h9 := c_5; simp only [ge_iff_le, gt_iff_lt, x_lt, x_le, x_eq, ne_eq, Int32.not_lt, Int32.not_le] at h9; simp only [Int32.reduceToInt] at h9; omega
      refine lv_iconst (v := 0) hx hb dX1_begin_15 (by decide) ?_
      refine va_put (D := D) (ci := 0) (v := .int 0) (ty := .int) (C := RX1) (T := TX1) (N := 3) hx hb hts inX1 tyX1 tyX1_ok nmX1 hown hK hP hD hS 0 grw_o0 rfl 2 (by decide) fl20 (fun _ h9 => h9) rfl (by decide +kernel) rfl rfl (Nat.le_of_ble_eq_true rfl) dX1_begin_16 (fun H locs hP hD hS => ?_)
      have hP : va_P D vwCl (grw y ad (sI σ 183 0)) H := x_trP hP grw_p0_2
      have hD : va_D A (grw y ad (sI σ 183 0)) := x_trD hD grw_p0_2
      refine lv_iconst (v := 0) hx hb dX1_begin_19 (by decide) ?_
      refine lv_istore_n (lv' := [(2, .int 0), (0, .ref (ad 180)), (1, .int q)]) hx hb dX1_begin_20 rfl hl (by decide) rfl (fun ls hl => ?_)
      have hP : va_P D vwCl (grw y ad (tI (sI σ 183 0) 182 (σ.2.2.1 182))) H := hP
      have hD : va_D A (grw y ad (tI (sI σ 183 0) 182 (σ.2.2.1 182))) := hD
      have loop : ∀ (fu : Nat) (i : Int32) (fa : Nat → Int32) (H : Heap) (locs : List Loc) (ls : Array Slot), (0 ≤ i.toInt) → (i.toInt ≤ 8) → (8 - i.toInt < (fu : Int)) → va_P D vwCl (grw y ad (tI (sI σ 183 0) 182 fa)) H → va_D A (grw y ad (tI (sI σ 183 0) 182 fa)) → va_S A s.heap H locs → lv_has ls 3 [(2, .int i), (1, .int q), (0, .ref (ad 180))] → W p l e ({ frames := 0, cells := 0, slots := 0, locals := 0 } : Room) s m ([.ref (ad 180), .int q] : List Value).toArray below meth c H locs 0 0 Q (F0 m 21 ls []) := by
        intro fu
        induction fu with
        | zero =>
          intro i fa H locs ls hi0 hi1 hm
          exact absurd hm (by omega)
        | succ fu ih_loop =>
          intro i fa H locs ls hi0 hi1 hm hP hD hS hl
          refine lv_iload_n hx hb dX1_begin_21 rfl (lv_at hl 0 rfl) ?_
          refine lv_aload_n hx hb dX1_begin_22 rfl (lv_at hl 2 rfl) ?_
          refine va_get (D := D) (ci := 0) (v := .ref (ad 182)) (C := RX1) (T := TX1) (N := 3) hx hb hts inX1 hown hK hP 0 grw_o0 rfl 1 (by decide) fl17 (fun _ h9 => h9) rfl dX1_begin_23 ?_
          refine va_alen hx hb hK hP 2 2 grw_a2 rfl (v := 8) rfl dX1_begin_26 ?_
          refine lv_icmp_ge (tgt := 43) hx hb dX1_begin_27 (by decide) (fun c_6 => ?_) (fun c_6 => ?_)
          · have kc_6 : i.toInt ≥ 8 := by have h9 := c_6; simp only [ge_iff_le, gt_iff_lt, x_lt, x_le, x_eq, ne_eq, Int32.not_lt, Int32.not_le] at h9; simp only [Int32.reduceToInt] at h9; omega
            exact x_vretW (u := (0, fa)) hx hb hr hQ (by (try dsimp only); exact ⟨by omega, by omega⟩) hP hD hK hS dX1_begin_43 hlocks
          · have kc_6 : i.toInt < 8 := by have h9 := c_6; simp only [ge_iff_le, gt_iff_lt, x_lt, x_le, x_eq, ne_eq, Int32.not_lt, Int32.not_le] at h9; simp only [Int32.reduceToInt] at h9; omega
            refine lv_aload_n hx hb dX1_begin_30 rfl (lv_at hl 2 rfl) ?_
            refine va_get (D := D) (ci := 0) (v := .ref (ad 182)) (C := RX1) (T := TX1) (N := 3) hx hb hts inX1 hown hK hP 0 grw_o0 rfl 1 (by decide) fl17 (fun _ h9 => h9) rfl dX1_begin_31 ?_
            refine lv_iload_n hx hb dX1_begin_34 rfl (lv_at hl 0 rfl) ?_
            refine lv_iconst (v := 0) hx hb dX1_begin_35 (by decide) ?_
            refine va_iast hx hb hK hP hD hS 2 2 grw_a2 rfl (x_in (by omega) (by omega)) dX1_begin_36 (fun H locs hP hD hS => ?_)
            obtain ⟨f_7, ef_7⟩ : ∃ z9 : Nat → Int32, z9 = (upd fa (Int32.toNatClampNeg i) 0) := ⟨_, rfl⟩
            have hP : va_P D vwCl (grw y ad (tI (tI (sI σ 183 0) 182 fa) 182 f_7)) H := by rw [ef_7]; exact x_trP hP grw_s2
            have hD : va_D A (grw y ad (tI (tI (sI σ 183 0) 182 fa) 182 f_7)) := by rw [ef_7]; exact x_trD hD grw_s2
            obtain ⟨i_8, ei_8⟩ : ∃ z9 : Int32, z9 = i + 1 := ⟨_, rfl⟩
            have vi_8 : i_8.toInt = i.toInt + 1 := by have h9 := x_add ei_8 (by omega) (by omega); omega
            refine lv_iinc (v := i_8) (lv' := [(2, .int i_8), (1, .int q), (0, .ref (ad 180))]) hx hb dX1_begin_37 hl (k := 0) rfl (by rw [ei_8]; rfl) (by decide) rfl (fun ls hl => ?_)
            refine lv_goto (tgt := 21) hx hb dX1_begin_40 (by decide) ?_
            have hP : va_P D vwCl (grw y ad (tI (sI σ 183 0) 182 f_7)) H := hP
            have hD : va_D A (grw y ad (tI (sI σ 183 0) 182 f_7)) := hD
            exact ih_loop i_8 f_7 H locs ls (by omega) (by omega) (by omega) hP hD hS (lv_sub hl [0, 1, 2] rfl)
      exact loop 9 0 (σ.2.2.1 182) H locs ls (by decide) (by first | decide | omega) (by omega) hP hD hS (lv_sub hl [0, 2, 1] rfl)
    · have kc_5 : q.toInt ≤ 8 := by have h9 := c_5; simp only [ge_iff_le, gt_iff_lt, x_lt, x_le, x_eq, ne_eq, Int32.not_lt, Int32.not_le] at h9; simp only [Int32.reduceToInt] at h9; omega
      refine lv_iload_n hx hb dX1_begin_11 rfl (lv_at hl 1 rfl) ?_
      refine lv_goto (tgt := 16) hx hb dX1_begin_12 (by decide) ?_
      refine va_put (D := D) (ci := 0) (v := .int q) (ty := .int) (C := RX1) (T := TX1) (N := 3) hx hb hts inX1 tyX1 tyX1_ok nmX1 hown hK hP hD hS 0 grw_o0 rfl 2 (by decide) fl20 (fun _ h9 => h9) rfl (by decide +kernel) rfl rfl (Nat.le_of_ble_eq_true rfl) dX1_begin_16 (fun H locs hP hD hS => ?_)
      have hP : va_P D vwCl (grw y ad (sI σ 183 q)) H := x_trP hP grw_p0_2
      have hD : va_D A (grw y ad (sI σ 183 q)) := x_trD hD grw_p0_2
      refine lv_iconst (v := 0) hx hb dX1_begin_19 (by decide) ?_
      refine lv_istore_n (lv' := [(2, .int 0), (0, .ref (ad 180)), (1, .int q)]) hx hb dX1_begin_20 rfl hl (by decide) rfl (fun ls hl => ?_)
      have hP : va_P D vwCl (grw y ad (tI (sI σ 183 q) 182 (σ.2.2.1 182))) H := hP
      have hD : va_D A (grw y ad (tI (sI σ 183 q) 182 (σ.2.2.1 182))) := hD
      have loop : ∀ (fu : Nat) (i : Int32) (fa : Nat → Int32) (H : Heap) (locs : List Loc) (ls : Array Slot), (0 ≤ i.toInt) → (i.toInt ≤ 8) → (8 - i.toInt < (fu : Int)) → va_P D vwCl (grw y ad (tI (sI σ 183 q) 182 fa)) H → va_D A (grw y ad (tI (sI σ 183 q) 182 fa)) → va_S A s.heap H locs → lv_has ls 3 [(2, .int i), (1, .int q), (0, .ref (ad 180))] → W p l e ({ frames := 0, cells := 0, slots := 0, locals := 0 } : Room) s m ([.ref (ad 180), .int q] : List Value).toArray below meth c H locs 0 0 Q (F0 m 21 ls []) := by
        intro fu
        induction fu with
        | zero =>
          intro i fa H locs ls hi0 hi1 hm
          exact absurd hm (by omega)
        | succ fu ih_loop =>
          intro i fa H locs ls hi0 hi1 hm hP hD hS hl
          refine lv_iload_n hx hb dX1_begin_21 rfl (lv_at hl 0 rfl) ?_
          refine lv_aload_n hx hb dX1_begin_22 rfl (lv_at hl 2 rfl) ?_
          refine va_get (D := D) (ci := 0) (v := .ref (ad 182)) (C := RX1) (T := TX1) (N := 3) hx hb hts inX1 hown hK hP 0 grw_o0 rfl 1 (by decide) fl17 (fun _ h9 => h9) rfl dX1_begin_23 ?_
          refine va_alen hx hb hK hP 2 2 grw_a2 rfl (v := 8) rfl dX1_begin_26 ?_
          refine lv_icmp_ge (tgt := 43) hx hb dX1_begin_27 (by decide) (fun c_9 => ?_) (fun c_9 => ?_)
          · have kc_9 : i.toInt ≥ 8 := by have h9 := c_9; simp only [ge_iff_le, gt_iff_lt, x_lt, x_le, x_eq, ne_eq, Int32.not_lt, Int32.not_le] at h9; simp only [Int32.reduceToInt] at h9; omega
            exact x_vretW (u := (q, fa)) hx hb hr hQ (by (try dsimp only); exact ⟨by omega, by omega⟩) hP hD hK hS dX1_begin_43 hlocks
          · have kc_9 : i.toInt < 8 := by have h9 := c_9; simp only [ge_iff_le, gt_iff_lt, x_lt, x_le, x_eq, ne_eq, Int32.not_lt, Int32.not_le] at h9; simp only [Int32.reduceToInt] at h9; omega
            refine lv_aload_n hx hb dX1_begin_30 rfl (lv_at hl 2 rfl) ?_
            refine va_get (D := D) (ci := 0) (v := .ref (ad 182)) (C := RX1) (T := TX1) (N := 3) hx hb hts inX1 hown hK hP 0 grw_o0 rfl 1 (by decide) fl17 (fun _ h9 => h9) rfl dX1_begin_31 ?_
            refine lv_iload_n hx hb dX1_begin_34 rfl (lv_at hl 0 rfl) ?_
            refine lv_iconst (v := 0) hx hb dX1_begin_35 (by decide) ?_
            refine va_iast hx hb hK hP hD hS 2 2 grw_a2 rfl (x_in (by omega) (by omega)) dX1_begin_36 (fun H locs hP hD hS => ?_)
            obtain ⟨f_10, ef_10⟩ : ∃ z9 : Nat → Int32, z9 = (upd fa (Int32.toNatClampNeg i) 0) := ⟨_, rfl⟩
            have hP : va_P D vwCl (grw y ad (tI (tI (sI σ 183 q) 182 fa) 182 f_10)) H := by rw [ef_10]; exact x_trP hP grw_s2
            have hD : va_D A (grw y ad (tI (tI (sI σ 183 q) 182 fa) 182 f_10)) := by rw [ef_10]; exact x_trD hD grw_s2
            obtain ⟨i_11, ei_11⟩ : ∃ z9 : Int32, z9 = i + 1 := ⟨_, rfl⟩
            have vi_11 : i_11.toInt = i.toInt + 1 := by have h9 := x_add ei_11 (by omega) (by omega); omega
            refine lv_iinc (v := i_11) (lv' := [(2, .int i_11), (1, .int q), (0, .ref (ad 180))]) hx hb dX1_begin_37 hl (k := 0) rfl (by rw [ei_11]; rfl) (by decide) rfl (fun ls hl => ?_)
            refine lv_goto (tgt := 21) hx hb dX1_begin_40 (by decide) ?_
            have hP : va_P D vwCl (grw y ad (tI (sI σ 183 q) 182 f_10)) H := hP
            have hD : va_D A (grw y ad (tI (sI σ 183 q) 182 f_10)) := hD
            exact ih_loop i_11 f_10 H locs ls (by omega) (by omega) (by omega) hP hD hS (lv_sub hl [0, 1, 2] rfl)
      exact loop 9 0 (σ.2.2.1 182) H locs ls (by decide) (by first | decide | omega) (by omega) hP hD hS (lv_sub hl [0, 2, 1] rfl)

def v_g_keepApart : List Cond := .code yX1_keepApart cX1_keepApart 3 none :: ([.fieldLink RX1 20 "SlopeRunner$Grouping" "inputs" "I", .fieldLink RX1 17 "SlopeRunner$Grouping" "apart" "[I"] ++ wsX10)
set_option maxHeartbeats 4000000 in
set_option maxRecDepth 100000 in
theorem g_keepApart (l : Launch) (D : va_G) (y : Nat → ClassId) (sz : Nat) (ad : Nat → Nat) (σ : OS) (q : Int32) (hin0 : 0 ≤ (σ.1 183).toInt) (hin1 : (σ.1 183).toInt ≤ 8) : Met l yX1_keepApart v_g_keepApart ({ frames := 0, cells := 0, slots := 0, locals := 0 } : Room) (va_Pc [.ref (ad 180), .int q] (xPre D (xT y) (grw y ad σ) sz)) (va_Qv (fun (u : (Nat → Int32)) => True) (fun (u : (Nat → Int32)) => xB D (xT y) (va_A (grw y ad σ) sz) (grw y ad (tI σ 182 u))) (va_A (grw y ad σ) sz)) 0 0 (va_A (grw y ad σ) sz) := by
  refine x_metv (cc := cX1_keepApart) (maxL := 3) (by decide) rfl (Nat.le_of_ble_eq_true rfl) ?_
  intro p e s m below meth c A H locs Q hx hb hml hown hts hr hlocks hmn hA hP hK hD hS ls hl hQ
  have hl : lv_has ls 3 [(0, .ref (ad 180)), (1, .int q)] := hl
  have fl20 := hts (.fieldLink RX1 20 "SlopeRunner$Grouping" "inputs" "I") (List.mem_of_getElem? (i := 1) rfl)
  have inX1 : ∀ w ∈ wsX10, w ∈ v_g_keepApart := (fun w h => List.mem_cons_of_mem _ (List.mem_append_right _ h))
  have kk_0 : (0 : Int32).toInt = 0 := rfl
  have kk_1 : (1 : Int32).toInt = 1 := rfl
  have fl17 := hts (.fieldLink RX1 17 "SlopeRunner$Grouping" "apart" "[I") (List.mem_of_getElem? (i := 2) rfl)
  refine lv_iconst (v := 0) hx hb dX1_keepApart_0 (by decide) ?_
  refine lv_istore_n (lv' := [(2, .int 0), (0, .ref (ad 180)), (1, .int q)]) hx hb dX1_keepApart_1 rfl hl (by decide) rfl (fun ls hl => ?_)
  have l00 : (0 : Int32).toInt = 0 := rfl
  have hP : va_P D vwCl (grw y ad (tI σ 182 (σ.2.2.1 182))) H := hP
  have hD : va_D A (grw y ad (tI σ 182 (σ.2.2.1 182))) := hD
  have loop : ∀ (fu : Nat) (i : Int32) (fa : Nat → Int32) (H : Heap) (locs : List Loc) (ls : Array Slot), (0 ≤ i.toInt) → (i.toInt ≤ (σ.1 183).toInt) → ((σ.1 183).toInt - i.toInt < (fu : Int)) → va_P D vwCl (grw y ad (tI σ 182 fa)) H → va_D A (grw y ad (tI σ 182 fa)) → va_S A s.heap H locs → lv_has ls 3 [(2, .int i), (1, .int q), (0, .ref (ad 180))] → W p l e ({ frames := 0, cells := 0, slots := 0, locals := 0 } : Room) s m ([.ref (ad 180), .int q] : List Value).toArray below meth c H locs 0 0 Q (F0 m 2 ls []) := by
    intro fu
    induction fu with
    | zero =>
      intro i fa H locs ls hi0 hi1 hm
      exact absurd hm (by omega)
    | succ fu ih_loop =>
      intro i fa H locs ls hi0 hi1 hm hP hD hS hl
      refine lv_iload_n hx hb dX1_keepApart_2 rfl (lv_at hl 0 rfl) ?_
      refine lv_aload_n hx hb dX1_keepApart_3 rfl (lv_at hl 2 rfl) ?_
      refine va_get (D := D) (ci := 0) (v := .int (σ.1 183)) (C := RX1) (T := TX1) (N := 3) hx hb hts inX1 hown hK hP 0 grw_o0 rfl 2 (by decide) fl20 (fun _ h9 => h9) rfl dX1_keepApart_4 ?_
      refine lv_icmp_ge (tgt := 34) hx hb dX1_keepApart_7 (by decide) (fun c_1 => ?_) (fun c_1 => ?_)
      · have kc_1 : i.toInt ≥ (σ.1 183).toInt := by have h9 := c_1; simp only [ge_iff_le, gt_iff_lt, x_lt, x_le, x_eq, ne_eq, Int32.not_lt, Int32.not_le] at h9; omega
        exact x_vretW (u := fa) hx hb hr hQ trivial hP hD hK hS dX1_keepApart_34 hlocks
      · have kc_1 : i.toInt < (σ.1 183).toInt := by have h9 := c_1; simp only [ge_iff_le, gt_iff_lt, x_lt, x_le, x_eq, ne_eq, Int32.not_lt, Int32.not_le] at h9; omega
        refine lv_iload_n hx hb dX1_keepApart_10 rfl (lv_at hl 1 rfl) ?_
        refine lv_iload_n hx hb dX1_keepApart_11 rfl (lv_at hl 0 rfl) ?_
        refine lv_ishr hx hb dX1_keepApart_12 ?_
        refine lv_topi (fun i_2 ei_2 => ?_)
        refine lv_iconst (v := 1) hx hb dX1_keepApart_13 (by decide) ?_
        refine lv_iand hx hb dX1_keepApart_14 ?_
        refine lv_topi (fun i_3 ei_3 => ?_)
        refine lv_if_eq (tgt := 28) hx hb dX1_keepApart_15 (by decide) (fun c_4 => ?_) (fun c_4 => ?_)
        · have kc_4 : i_3.toInt = 0 := by have h9 := c_4; simp only [ge_iff_le, gt_iff_lt, x_lt, x_le, x_eq, ne_eq, Int32.not_lt, Int32.not_le] at h9; simp only [Int32.reduceToInt] at h9; omega
          obtain ⟨i_5, ei_5⟩ : ∃ z9 : Int32, z9 = i + 1 := ⟨_, rfl⟩
          have vi_5 : i_5.toInt = i.toInt + 1 := by have h9 := x_add ei_5 (by omega) (by omega); omega
          refine lv_iinc (v := i_5) (lv' := [(2, .int i_5), (1, .int q), (0, .ref (ad 180))]) hx hb dX1_keepApart_28 hl (k := 0) rfl (by rw [ei_5]; rfl) (by decide) rfl (fun ls hl => ?_)
          refine lv_goto (tgt := 2) hx hb dX1_keepApart_31 (by decide) ?_
          exact ih_loop i_5 fa H locs ls (by omega) (by omega) (by omega) hP hD hS (lv_sub hl [0, 1, 2] rfl)
        · have kc_4 : i_3.toInt ≠ 0 := by have h9 := c_4; simp only [ge_iff_le, gt_iff_lt, x_lt, x_le, x_eq, ne_eq, Int32.not_lt, Int32.not_le] at h9; simp only [Int32.reduceToInt] at h9; omega
          refine lv_aload_n hx hb dX1_keepApart_18 rfl (lv_at hl 2 rfl) ?_
          refine va_get (D := D) (ci := 0) (v := .ref (ad 182)) (C := RX1) (T := TX1) (N := 3) hx hb hts inX1 hown hK hP 0 grw_o0 rfl 1 (by decide) fl17 (fun _ h9 => h9) rfl dX1_keepApart_19 ?_
          refine lv_iload_n hx hb dX1_keepApart_22 rfl (lv_at hl 0 rfl) ?_
          refine lv_dup2_11 hx hb dX1_keepApart_23 rfl rfl ?_
          refine va_iald hx hb hK hP 2 2 grw_a2 rfl (x_in (by omega) (by omega)) dX1_keepApart_24 ?_
          refine lv_topi (fun i_6 ei_6 => ?_)
          have ei_6 : i_6 = fa (Int32.toNatClampNeg i) := ei_6
          refine lv_iload_n hx hb dX1_keepApart_25 rfl (lv_at hl 1 rfl) ?_
          refine lv_ior hx hb dX1_keepApart_26 ?_
          refine lv_topi (fun i_7 ei_7 => ?_)
          refine va_iast hx hb hK hP hD hS 2 2 grw_a2 rfl (x_in (by omega) (by omega)) dX1_keepApart_27 (fun H locs hP hD hS => ?_)
          obtain ⟨f_8, ef_8⟩ : ∃ z9 : Nat → Int32, z9 = (upd fa (Int32.toNatClampNeg i) i_7) := ⟨_, rfl⟩
          have hP : va_P D vwCl (grw y ad (tI (tI σ 182 fa) 182 f_8)) H := by rw [ef_8]; exact x_trP hP grw_s2
          have hD : va_D A (grw y ad (tI (tI σ 182 fa) 182 f_8)) := by rw [ef_8]; exact x_trD hD grw_s2
          obtain ⟨i_9, ei_9⟩ : ∃ z9 : Int32, z9 = i + 1 := ⟨_, rfl⟩
          have vi_9 : i_9.toInt = i.toInt + 1 := by have h9 := x_add ei_9 (by omega) (by omega); omega
          refine lv_iinc (v := i_9) (lv' := [(2, .int i_9), (1, .int q), (0, .ref (ad 180))]) hx hb dX1_keepApart_28 hl (k := 0) rfl (by rw [ei_9]; rfl) (by decide) rfl (fun ls hl => ?_)
          refine lv_goto (tgt := 2) hx hb dX1_keepApart_31 (by decide) ?_
          have hP : va_P D vwCl (grw y ad (tI σ 182 f_8)) H := hP
          have hD : va_D A (grw y ad (tI σ 182 f_8)) := hD
          exact ih_loop i_9 f_8 H locs ls (by omega) (by omega) (by omega) hP hD hS (lv_sub hl [0, 1, 2] rfl)
  exact loop 9 0 (σ.2.2.1 182) H locs ls (by decide) (by first | decide | omega) (by omega) hP hD hS (lv_sub hl [0, 2, 1] rfl)

def v_g_groupOf : List Cond := .code yX1_groupOf cX1_groupOf 2 (some .int) :: ([.fieldLink RX1 20 "SlopeRunner$Grouping" "inputs" "I", .fieldLink RX1 11 "SlopeRunner$Grouping" "group" "[I"] ++ wsX10)
set_option maxHeartbeats 4000000 in
set_option maxRecDepth 100000 in
theorem g_groupOf (l : Launch) (D : va_G) (y : Nat → ClassId) (sz : Nat) (ad : Nat → Nat) (σ : OS) (q : Int32) (hin0 : 0 ≤ (σ.1 183).toInt) (hin1 : (σ.1 183).toInt ≤ 8) : Met l yX1_groupOf v_g_groupOf ({ frames := 0, cells := 0, slots := 0, locals := 0 } : Room) (va_Pc [.ref (ad 180), .int q] (xPre D (xT y) (grw y ad σ) sz)) (va_Qi (fun (r : Int32) (_ : Unit) => True) (fun (u : Unit) => xB D (xT y) (va_A (grw y ad σ) sz) (grw y ad σ)) (va_A (grw y ad σ) sz)) 0 0 (va_A (grw y ad σ) sz) := by
  refine x_meti (cc := cX1_groupOf) (maxL := 2) (by decide) rfl (Nat.le_of_ble_eq_true rfl) ?_
  intro p e s m below meth c A H locs Q hx hb hml hown hts hr hlocks hmn hA hP hK hD hS ls hl hQ
  have hl : lv_has ls 2 [(0, .ref (ad 180)), (1, .int q)] := hl
  have kk_0 : (0 : Int32).toInt = 0 := rfl
  have kk_m1 : ((-1) : Int32).toInt = -1 := rfl
  have fl20 := hts (.fieldLink RX1 20 "SlopeRunner$Grouping" "inputs" "I") (List.mem_of_getElem? (i := 1) rfl)
  have inX1 : ∀ w ∈ wsX10, w ∈ v_g_groupOf := (fun w h => List.mem_cons_of_mem _ (List.mem_append_right _ h))
  have fl11 := hts (.fieldLink RX1 11 "SlopeRunner$Grouping" "group" "[I") (List.mem_of_getElem? (i := 2) rfl)
  refine lv_iload_n hx hb dX1_groupOf_0 rfl (lv_at hl 1 rfl) ?_
  refine lv_if_lt (tgt := 21) hx hb dX1_groupOf_1 (by decide) (fun c_1 => ?_) (fun c_1 => ?_)
  · have kc_1 : q.toInt < 0 := by have h9 := c_1; simp only [ge_iff_le, gt_iff_lt, x_lt, x_le, x_eq, ne_eq, Int32.not_lt, Int32.not_le] at h9; simp only [Int32.reduceToInt] at h9; omega
    refine lv_iconst (v := (-1)) hx hb dX1_groupOf_21 (by decide) ?_
    exact x_iretW (v := (-1)) (u := ()) hx hb hr hQ trivial hP hD hK hS dX1_groupOf_22 hlocks
  · have kc_1 : q.toInt ≥ 0 := by have h9 := c_1; simp only [ge_iff_le, gt_iff_lt, x_lt, x_le, x_eq, ne_eq, Int32.not_lt, Int32.not_le] at h9; simp only [Int32.reduceToInt] at h9; omega
    refine lv_iload_n hx hb dX1_groupOf_4 rfl (lv_at hl 1 rfl) ?_
    refine lv_aload_n hx hb dX1_groupOf_5 rfl (lv_at hl 0 rfl) ?_
    refine va_get (D := D) (ci := 0) (v := .int (σ.1 183)) (C := RX1) (T := TX1) (N := 3) hx hb hts inX1 hown hK hP 0 grw_o0 rfl 2 (by decide) fl20 (fun _ h9 => h9) rfl dX1_groupOf_6 ?_
    refine lv_icmp_ge (tgt := 21) hx hb dX1_groupOf_9 (by decide) (fun c_2 => ?_) (fun c_2 => ?_)
    · have kc_2 : q.toInt ≥ (σ.1 183).toInt := by have h9 := c_2; simp only [ge_iff_le, gt_iff_lt, x_lt, x_le, x_eq, ne_eq, Int32.not_lt, Int32.not_le] at h9; omega
      refine lv_iconst (v := (-1)) hx hb dX1_groupOf_21 (by decide) ?_
      exact x_iretW (v := (-1)) (u := ()) hx hb hr hQ trivial hP hD hK hS dX1_groupOf_22 hlocks
    · have kc_2 : q.toInt < (σ.1 183).toInt := by have h9 := c_2; simp only [ge_iff_le, gt_iff_lt, x_lt, x_le, x_eq, ne_eq, Int32.not_lt, Int32.not_le] at h9; omega
      refine lv_aload_n hx hb dX1_groupOf_12 rfl (lv_at hl 0 rfl) ?_
      refine va_get (D := D) (ci := 0) (v := .ref (ad 181)) (C := RX1) (T := TX1) (N := 3) hx hb hts inX1 hown hK hP 0 grw_o0 rfl 0 (by decide) fl11 (fun _ h9 => h9) rfl dX1_groupOf_13 ?_
      refine lv_iload_n hx hb dX1_groupOf_16 rfl (lv_at hl 1 rfl) ?_
      refine va_iald hx hb hK hP 1 2 grw_a1 rfl (x_in (by omega) (by omega)) dX1_groupOf_17 ?_
      refine lv_topi (fun i_3 ei_3 => ?_)
      have ei_3 : i_3 = (σ.2.2.1 181) (Int32.toNatClampNeg q) := ei_3
      refine lv_goto (tgt := 22) hx hb dX1_groupOf_18 (by decide) ?_
      exact x_iretW (v := i_3) (u := ()) hx hb hr hQ trivial hP hD hK hS dX1_groupOf_22 hlocks

def v_g_isFree : List Cond := .code yX1_isFree cX1_isFree 4 (some .boolean) :: ([.fieldLink RX1 11 "SlopeRunner$Grouping" "group" "[I", .fieldLink RX1 17 "SlopeRunner$Grouping" "apart" "[I"] ++ wsX10)
set_option maxHeartbeats 4000000 in
set_option maxRecDepth 100000 in
theorem g_isFree (l : Launch) (D : va_G) (y : Nat → ClassId) (sz : Nat) (ad : Nat → Nat) (σ : OS) (a g : Int32) (ha0 : 0 ≤ a.toInt) (ha1 : a.toInt ≤ 7) : Met l yX1_isFree v_g_isFree ({ frames := 0, cells := 0, slots := 0, locals := 0 } : Room) (va_Pc [.ref (ad 180), .int a, .int g] (xPre D (xT y) (grw y ad σ) sz)) (va_Qi (fun (r : Int32) (_ : Unit) => r.toInt = 0 ∨ r.toInt = 1) (fun (u : Unit) => xB D (xT y) (va_A (grw y ad σ) sz) (grw y ad σ)) (va_A (grw y ad σ) sz)) 0 0 (va_A (grw y ad σ) sz) := by
  refine x_meti (cc := cX1_isFree) (maxL := 4) (by decide) rfl (Nat.le_of_ble_eq_true rfl) ?_
  intro p e s m below meth c A H locs Q hx hb hml hown hts hr hlocks hmn hA hP hK hD hS ls hl hQ
  have hl : lv_has ls 4 [(0, .ref (ad 180)), (1, .int a), (2, .int g)] := hl
  have kk_1 : (1 : Int32).toInt = 1 := rfl
  have fl11 := hts (.fieldLink RX1 11 "SlopeRunner$Grouping" "group" "[I") (List.mem_of_getElem? (i := 1) rfl)
  have inX1 : ∀ w ∈ wsX10, w ∈ v_g_isFree := (fun w h => List.mem_cons_of_mem _ (List.mem_append_right _ h))
  have fl17 := hts (.fieldLink RX1 17 "SlopeRunner$Grouping" "apart" "[I") (List.mem_of_getElem? (i := 2) rfl)
  have kk_0 : (0 : Int32).toInt = 0 := rfl
  refine lv_iconst (v := 0) hx hb dX1_isFree_0 (by decide) ?_
  refine lv_istore_n (lv' := [(3, .int 0), (0, .ref (ad 180)), (1, .int a), (2, .int g)]) hx hb dX1_isFree_1 rfl hl (by decide) rfl (fun ls hl => ?_)
  have l00 : (0 : Int32).toInt = 0 := rfl
  have loop : ∀ (fu : Nat) (i : Int32) (H : Heap) (locs : List Loc) (ls : Array Slot), (0 ≤ i.toInt) → (i.toInt ≤ a.toInt) → (a.toInt - i.toInt < (fu : Int)) → va_P D vwCl (grw y ad σ) H → va_D A (grw y ad σ) → va_S A s.heap H locs → lv_has ls 4 [(3, .int i), (2, .int g), (1, .int a), (0, .ref (ad 180))] → W p l e ({ frames := 0, cells := 0, slots := 0, locals := 0 } : Room) s m ([.ref (ad 180), .int a, .int g] : List Value).toArray below meth c H locs 0 0 Q (F0 m 2 ls []) := by
    intro fu
    induction fu with
    | zero =>
      intro i H locs ls hi0 hi1 hm
      exact absurd hm (by omega)
    | succ fu ih_loop =>
      intro i H locs ls hi0 hi1 hm hP hD hS hl
      refine lv_iload_n hx hb dX1_isFree_2 rfl (lv_at hl 0 rfl) ?_
      refine lv_iload_n hx hb dX1_isFree_3 rfl (lv_at hl 2 rfl) ?_
      refine lv_icmp_ge (tgt := 38) hx hb dX1_isFree_4 (by decide) (fun c_1 => ?_) (fun c_1 => ?_)
      · have kc_1 : i.toInt ≥ a.toInt := by have h9 := c_1; simp only [ge_iff_le, gt_iff_lt, x_lt, x_le, x_eq, ne_eq, Int32.not_lt, Int32.not_le] at h9; omega
        refine lv_iconst (v := 1) hx hb dX1_isFree_38 (by decide) ?_
        exact x_zretW (v := 1) (u := ()) hx hb hr hQ rfl (by decide) hP hD hK hS dX1_isFree_39 hlocks
      · have kc_1 : i.toInt < a.toInt := by have h9 := c_1; simp only [ge_iff_le, gt_iff_lt, x_lt, x_le, x_eq, ne_eq, Int32.not_lt, Int32.not_le] at h9; omega
        refine lv_aload_n hx hb dX1_isFree_7 rfl (lv_at hl 3 rfl) ?_
        refine va_get (D := D) (ci := 0) (v := .ref (ad 181)) (C := RX1) (T := TX1) (N := 3) hx hb hts inX1 hown hK hP 0 grw_o0 rfl 0 (by decide) fl11 (fun _ h9 => h9) rfl dX1_isFree_8 ?_
        refine lv_iload_n hx hb dX1_isFree_11 rfl (lv_at hl 0 rfl) ?_
        refine va_iald hx hb hK hP 1 2 grw_a1 rfl (x_in (by omega) (by omega)) dX1_isFree_12 ?_
        refine lv_topi (fun i_2 ei_2 => ?_)
        have ei_2 : i_2 = (σ.2.2.1 181) (Int32.toNatClampNeg i) := ei_2
        refine lv_iload_n hx hb dX1_isFree_13 rfl (lv_at hl 1 rfl) ?_
        refine lv_icmp_ne (tgt := 32) hx hb dX1_isFree_14 (by decide) (fun c_3 => ?_) (fun c_3 => ?_)
        · have kc_3 : i_2.toInt ≠ g.toInt := by have h9 := c_3; simp only [ge_iff_le, gt_iff_lt, x_lt, x_le, x_eq, ne_eq, Int32.not_lt, Int32.not_le] at h9; omega
          obtain ⟨i_4, ei_4⟩ : ∃ z9 : Int32, z9 = i + 1 := ⟨_, rfl⟩
          have vi_4 : i_4.toInt = i.toInt + 1 := by have h9 := x_add ei_4 (by omega) (by omega); omega
          refine lv_iinc (v := i_4) (lv' := [(3, .int i_4), (2, .int g), (1, .int a), (0, .ref (ad 180))]) hx hb dX1_isFree_32 hl (k := 0) rfl (by rw [ei_4]; rfl) (by decide) rfl (fun ls hl => ?_)
          refine lv_goto (tgt := 2) hx hb dX1_isFree_35 (by decide) ?_
          exact ih_loop i_4 H locs ls (by omega) (by omega) (by omega) hP hD hS (lv_sub hl [0, 1, 2, 3] rfl)
        · have kc_3 : i_2.toInt = g.toInt := by have h9 := c_3; simp only [ge_iff_le, gt_iff_lt, x_lt, x_le, x_eq, ne_eq, Int32.not_lt, Int32.not_le] at h9; omega
          refine lv_aload_n hx hb dX1_isFree_17 rfl (lv_at hl 3 rfl) ?_
          refine va_get (D := D) (ci := 0) (v := .ref (ad 182)) (C := RX1) (T := TX1) (N := 3) hx hb hts inX1 hown hK hP 0 grw_o0 rfl 1 (by decide) fl17 (fun _ h9 => h9) rfl dX1_isFree_18 ?_
          refine lv_iload_n hx hb dX1_isFree_21 rfl (lv_at hl 2 rfl) ?_
          refine va_iald hx hb hK hP 2 2 grw_a2 rfl (x_in (by omega) (by omega)) dX1_isFree_22 ?_
          refine lv_topi (fun i_5 ei_5 => ?_)
          have ei_5 : i_5 = (σ.2.2.1 182) (Int32.toNatClampNeg a) := ei_5
          refine lv_iload_n hx hb dX1_isFree_23 rfl (lv_at hl 0 rfl) ?_
          refine lv_ishr hx hb dX1_isFree_24 ?_
          refine lv_topi (fun i_6 ei_6 => ?_)
          refine lv_iconst (v := 1) hx hb dX1_isFree_25 (by decide) ?_
          refine lv_iand hx hb dX1_isFree_26 ?_
          refine lv_topi (fun i_7 ei_7 => ?_)
          refine lv_if_eq (tgt := 32) hx hb dX1_isFree_27 (by decide) (fun c_8 => ?_) (fun c_8 => ?_)
          · have kc_8 : i_7.toInt = 0 := by have h9 := c_8; simp only [ge_iff_le, gt_iff_lt, x_lt, x_le, x_eq, ne_eq, Int32.not_lt, Int32.not_le] at h9; simp only [Int32.reduceToInt] at h9; omega
            obtain ⟨i_9, ei_9⟩ : ∃ z9 : Int32, z9 = i + 1 := ⟨_, rfl⟩
            have vi_9 : i_9.toInt = i.toInt + 1 := by have h9 := x_add ei_9 (by omega) (by omega); omega
            refine lv_iinc (v := i_9) (lv' := [(3, .int i_9), (2, .int g), (1, .int a), (0, .ref (ad 180))]) hx hb dX1_isFree_32 hl (k := 0) rfl (by rw [ei_9]; rfl) (by decide) rfl (fun ls hl => ?_)
            refine lv_goto (tgt := 2) hx hb dX1_isFree_35 (by decide) ?_
            exact ih_loop i_9 H locs ls (by omega) (by omega) (by omega) hP hD hS (lv_sub hl [0, 1, 2, 3] rfl)
          · have kc_8 : i_7.toInt ≠ 0 := by have h9 := c_8; simp only [ge_iff_le, gt_iff_lt, x_lt, x_le, x_eq, ne_eq, Int32.not_lt, Int32.not_le] at h9; simp only [Int32.reduceToInt] at h9; omega
            refine lv_iconst (v := 0) hx hb dX1_isFree_30 (by decide) ?_
            exact x_zretW (v := 0) (u := ()) hx hb hr hQ rfl (by decide) hP hD hK hS dX1_isFree_31 hlocks
  exact loop 9 0 H locs ls (by decide) (by first | decide | omega) (by omega) hP hD hS (lv_sub hl [0, 3, 2, 1] rfl)

def v_g_fits0 : List Cond := .code yX1_fits cX1_fits 5 (some .boolean) :: ([.fieldLink RX1 20 "SlopeRunner$Grouping" "inputs" "I"] ++ wsX10)
set_option maxHeartbeats 4000000 in
set_option maxRecDepth 100000 in
theorem g_fits0 (l : Launch) (D : va_G) (y : Nat → ClassId) (sz : Nat) (ad : Nat → Nat) (σ : OS) (a b mo : Int32) (ha0 : 0 ≤ a.toInt) (ha1 : a.toInt ≤ 8) (hb0 : 0 ≤ b.toInt) (hb1 : b.toInt ≤ a.toInt) (hd : 8 - a.toInt ≤ 0) (hin0 : 0 ≤ (σ.1 183).toInt) (hin1 : (σ.1 183).toInt ≤ 8) : Met l yX1_fits v_g_fits0 ({ frames := 0, cells := 0, slots := 0, locals := 0 } : Room) (va_Pc [.ref (ad 180), .int a, .int b, .int mo] (xPre D (xT y) (grw y ad σ) sz)) (va_Qi (fun (r : Int32) (u : (Nat → Int32)) => r.toInt = 0 ∨ r.toInt = 1) (fun (u : (Nat → Int32)) => xB D (xT y) (va_A (grw y ad σ) sz) (grw y ad (tI σ 181 u))) (va_A (grw y ad σ) sz)) 0 0 (va_A (grw y ad σ) sz) := by
  refine x_meti (cc := cX1_fits) (maxL := 5) (by decide) rfl (Nat.le_of_ble_eq_true rfl) ?_
  intro p e s m below meth c A H locs Q hx hb hml hown hts hr hlocks hmn hA hP hK hD hS ls hl hQ
  have hl : lv_has ls 5 [(0, .ref (ad 180)), (1, .int a), (2, .int b), (3, .int mo)] := hl
  have fl20 := hts (.fieldLink RX1 20 "SlopeRunner$Grouping" "inputs" "I") (List.mem_of_getElem? (i := 1) rfl)
  have inX1 : ∀ w ∈ wsX10, w ∈ v_g_fits0 := (fun w h => List.mem_cons_of_mem _ (List.mem_append_right _ h))
  have kk_1 : (1 : Int32).toInt = 1 := rfl
  refine lv_iload_n hx hb dX1_fits_0 rfl (lv_at hl 1 rfl) ?_
  refine lv_aload_n hx hb dX1_fits_1 rfl (lv_at hl 0 rfl) ?_
  refine va_get (D := D) (ci := 0) (v := .int (σ.1 183)) (C := RX1) (T := TX1) (N := 3) hx hb hts inX1 hown hK hP 0 grw_o0 rfl 2 (by decide) fl20 (fun _ h9 => h9) rfl dX1_fits_2 ?_
  refine lv_icmp_lt (tgt := 10) hx hb dX1_fits_5 (by decide) (fun c_1 => ?_) (fun c_1 => ?_)
  · have kc_1 : a.toInt < (σ.1 183).toInt := by have h9 := c_1; simp only [ge_iff_le, gt_iff_lt, x_lt, x_le, x_eq, ne_eq, Int32.not_lt, Int32.not_le] at h9; omega
    exfalso
    omega
  · have kc_1 : a.toInt ≥ (σ.1 183).toInt := by have h9 := c_1; simp only [ge_iff_le, gt_iff_lt, x_lt, x_le, x_eq, ne_eq, Int32.not_lt, Int32.not_le] at h9; omega
    refine lv_iconst (v := 1) hx hb dX1_fits_8 (by decide) ?_
    have hP : va_P D vwCl (grw y ad (tI σ 181 (σ.2.2.1 181))) H := hP
    have hD : va_D A (grw y ad (tI σ 181 (σ.2.2.1 181))) := hD
    exact x_zretW (v := 1) (u := (σ.2.2.1 181)) hx hb hr hQ rfl (by decide) hP hD hK hS dX1_fits_9 hlocks

def v_g_fits1 : List Cond := .code yX1_fits cX1_fits 5 (some .boolean) :: ([.fieldLink RX1 20 "SlopeRunner$Grouping" "inputs" "I", .fieldLink RX1 11 "SlopeRunner$Grouping" "group" "[I"] ++ ((wsV RX1 28 RX1 yX1_isFree v_g_isFree) ++ ((wsV RX1 24 RX1 yX1_fits v_g_fits0) ++ wsX10)))
theorem g_g_fits1_0 : GoodIn v_g_fits1 (wsV RX1 28 RX1 yX1_isFree v_g_isFree) := goodIn_sub (fun w h => List.mem_cons_of_mem _ (List.mem_append_right _ (List.mem_append_left _ h))) (by decide +kernel)
theorem g_g_fits1_1 : GoodIn v_g_fits1 (wsV RX1 24 RX1 yX1_fits v_g_fits0) := goodIn_sub (fun w h => List.mem_cons_of_mem _ (List.mem_append_right _ (List.mem_append_right _ (List.mem_append_left _ h)))) (by decide +kernel)
set_option maxHeartbeats 4000000 in
set_option maxRecDepth 100000 in
theorem g_fits1 (l : Launch) (D : va_G) (y : Nat → ClassId) (sz : Nat) (ad : Nat → Nat) (σ : OS) (a b mo : Int32) (ha0 : 0 ≤ a.toInt) (ha1 : a.toInt ≤ 8) (hb0 : 0 ≤ b.toInt) (hb1 : b.toInt ≤ a.toInt) (hd : 8 - a.toInt ≤ 1) (hin0 : 0 ≤ (σ.1 183).toInt) (hin1 : (σ.1 183).toInt ≤ 8) : Met l yX1_fits v_g_fits1 ({ frames := 1, cells := 0, slots := 0, locals := 24 } : Room) (va_Pc [.ref (ad 180), .int a, .int b, .int mo] (xPre D (xT y) (grw y ad σ) sz)) (va_Qi (fun (r : Int32) (u : (Nat → Int32)) => r.toInt = 0 ∨ r.toInt = 1) (fun (u : (Nat → Int32)) => xB D (xT y) (va_A (grw y ad σ) sz) (grw y ad (tI σ 181 u))) (va_A (grw y ad σ) sz)) 0 0 (va_A (grw y ad σ) sz) := by
  refine x_meti (cc := cX1_fits) (maxL := 5) (by decide) rfl (Nat.le_of_ble_eq_true rfl) ?_
  intro p e s m below meth c A H locs Q hx hb hml hown hts hr hlocks hmn hA hP hK hD hS ls hl hQ
  have hl : lv_has ls 5 [(0, .ref (ad 180)), (1, .int a), (2, .int b), (3, .int mo)] := hl
  have fl20 := hts (.fieldLink RX1 20 "SlopeRunner$Grouping" "inputs" "I") (List.mem_of_getElem? (i := 1) rfl)
  have inX1 : ∀ w ∈ wsX10, w ∈ v_g_fits1 := (fun w h => List.mem_cons_of_mem _ (List.mem_append_right _ (List.mem_append_right _ (List.mem_append_right _ h))))
  have kk_0 : (0 : Int32).toInt = 0 := rfl
  have fl11 := hts (.fieldLink RX1 11 "SlopeRunner$Grouping" "group" "[I") (List.mem_of_getElem? (i := 2) rfl)
  have kk_1 : (1 : Int32).toInt = 1 := rfl
  refine lv_iload_n hx hb dX1_fits_0 rfl (lv_at hl 1 rfl) ?_
  refine lv_aload_n hx hb dX1_fits_1 rfl (lv_at hl 0 rfl) ?_
  refine va_get (D := D) (ci := 0) (v := .int (σ.1 183)) (C := RX1) (T := TX1) (N := 3) hx hb hts inX1 hown hK hP 0 grw_o0 rfl 2 (by decide) fl20 (fun _ h9 => h9) rfl dX1_fits_2 ?_
  refine lv_icmp_lt (tgt := 10) hx hb dX1_fits_5 (by decide) (fun c_1 => ?_) (fun c_1 => ?_)
  · have kc_1 : a.toInt < (σ.1 183).toInt := by have h9 := c_1; simp only [ge_iff_le, gt_iff_lt, x_lt, x_le, x_eq, ne_eq, Int32.not_lt, Int32.not_le] at h9; omega
    refine lv_iconst (v := 0) hx hb dX1_fits_10 (by decide) ?_
    refine lv_istore (lv' := [(4, .int 0), (0, .ref (ad 180)), (1, .int a), (2, .int b), (3, .int mo)]) hx hb dX1_fits_11 hl (by decide) rfl (fun ls hl => ?_)
    have l00 : (0 : Int32).toInt = 0 := rfl
    have hP : va_P D vwCl (grw y ad (tI σ 181 (σ.2.2.1 181))) H := hP
    have hD : va_D A (grw y ad (tI σ 181 (σ.2.2.1 181))) := hD
    have loop : ∀ (fu : Nat) (i : Int32) (fg : Nat → Int32) (H : Heap) (locs : List Loc) (ls : Array Slot), (0 ≤ i.toInt) → (i.toInt ≤ b.toInt + 1) → (b.toInt + 1 - i.toInt < (fu : Int)) → va_P D vwCl (grw y ad (tI σ 181 fg)) H → va_D A (grw y ad (tI σ 181 fg)) → va_S A s.heap H locs → lv_has ls 5 [(4, .int i), (3, .int mo), (2, .int b), (1, .int a), (0, .ref (ad 180))] → W p l e ({ frames := 1, cells := 0, slots := 0, locals := 24 } : Room) s m ([.ref (ad 180), .int a, .int b, .int mo] : List Value).toArray below meth c H locs 0 0 Q (F0 m 13 ls []) := by
      intro fu
      induction fu with
      | zero =>
        intro i fg H locs ls hi0 hi1 hm
        exact absurd hm (by omega)
      | succ fu ih_loop =>
        intro i fg H locs ls hi0 hi1 hm hP hD hS hl
        refine lv_iload hx hb dX1_fits_13 (lv_at hl 0 rfl) ?_
        refine lv_iload_n hx hb dX1_fits_15 rfl (lv_at hl 2 rfl) ?_
        refine lv_icmp_gt (tgt := 78) hx hb dX1_fits_16 (by decide) (fun c_2 => ?_) (fun c_2 => ?_)
        · have kc_2 : i.toInt > b.toInt := by have h9 := c_2; simp only [ge_iff_le, gt_iff_lt, x_lt, x_le, x_eq, ne_eq, Int32.not_lt, Int32.not_le] at h9; omega
          refine lv_iconst (v := 0) hx hb dX1_fits_78 (by decide) ?_
          exact x_zretW (v := 0) (u := fg) hx hb hr hQ rfl (by decide) hP hD hK hS dX1_fits_79 hlocks
        · have kc_2 : i.toInt ≤ b.toInt := by have h9 := c_2; simp only [ge_iff_le, gt_iff_lt, x_lt, x_le, x_eq, ne_eq, Int32.not_lt, Int32.not_le] at h9; omega
          refine lv_iload hx hb dX1_fits_19 (lv_at hl 0 rfl) ?_
          refine lv_iload_n hx hb dX1_fits_21 rfl (lv_at hl 1 rfl) ?_
          refine lv_icmp_ge (tgt := 78) hx hb dX1_fits_22 (by decide) (fun c_3 => ?_) (fun c_3 => ?_)
          · have kc_3 : i.toInt ≥ mo.toInt := by have h9 := c_3; simp only [ge_iff_le, gt_iff_lt, x_lt, x_le, x_eq, ne_eq, Int32.not_lt, Int32.not_le] at h9; omega
            refine lv_iconst (v := 0) hx hb dX1_fits_78 (by decide) ?_
            exact x_zretW (v := 0) (u := fg) hx hb hr hQ rfl (by decide) hP hD hK hS dX1_fits_79 hlocks
          · have kc_3 : i.toInt < mo.toInt := by have h9 := c_3; simp only [ge_iff_le, gt_iff_lt, x_lt, x_le, x_eq, ne_eq, Int32.not_lt, Int32.not_le] at h9; omega
            refine lv_aload_n hx hb dX1_fits_25 rfl (lv_at hl 4 rfl) ?_
            refine lv_iload_n hx hb dX1_fits_26 rfl (lv_at hl 3 rfl) ?_
            refine lv_iload hx hb dX1_fits_27 (lv_at hl 0 rfl) ?_
            refine x_calliW (va_runV (As := [.int a, .int i]) (rest := []) ⟨hx, hb, hml, hown, hts⟩ (g_isFree l D y H.size ad (tI σ 181 fg) a i (by first | omega | decide) (by first | omega | decide)) (cwV 2 hts g_g_fits1_0 rfl rfl rfl (by decide +kernel) ⟨Nat.le_of_ble_eq_true rfl, Nat.le_of_ble_eq_true rfl⟩) (x_preV (q := (RX1, TX1, 3)) hK hP hD (ci := 0) (q0 := 0) rfl grw_o0) rfl rfl hl.1 rfl (lv_room (Nat.le_of_ble_eq_true rfl)) dX1_fits_29 ⟨Nat.le_of_ble_eq_true rfl, Nat.le_of_ble_eq_true rfl⟩) hP hD hS hA (fun r_4 u H locs hw hP hD hS => ?_)
            try dsimp only at hw
            have hP : va_P D vwCl (grw y ad (tI σ 181 fg)) H := hP
            have hD : va_D A (grw y ad (tI σ 181 fg)) := hD
            refine lv_if_ne (tgt := 38) hx hb dX1_fits_32 (by decide) (fun c_5 => ?_) (fun c_5 => ?_)
            · have kc_5 : r_4.toInt ≠ 0 := by have h9 := c_5; simp only [ge_iff_le, gt_iff_lt, x_lt, x_le, x_eq, ne_eq, Int32.not_lt, Int32.not_le] at h9; simp only [Int32.reduceToInt] at h9; omega
              refine lv_aload_n hx hb dX1_fits_38 rfl (lv_at hl 4 rfl) ?_
              refine va_get (D := D) (ci := 0) (v := .ref (ad 181)) (C := RX1) (T := TX1) (N := 3) hx hb hts inX1 hown hK hP 0 grw_o0 rfl 0 (by decide) fl11 (fun _ h9 => h9) rfl dX1_fits_39 ?_
              refine lv_iload_n hx hb dX1_fits_42 rfl (lv_at hl 3 rfl) ?_
              refine lv_iload hx hb dX1_fits_43 (lv_at hl 0 rfl) ?_
              refine va_iast hx hb hK hP hD hS 1 2 grw_a1 rfl (x_in (by omega) (by omega)) dX1_fits_45 (fun H locs hP hD hS => ?_)
              obtain ⟨f_6, ef_6⟩ : ∃ z9 : Nat → Int32, z9 = (upd fg (Int32.toNatClampNeg a) i) := ⟨_, rfl⟩
              have hP : va_P D vwCl (grw y ad (tI (tI σ 181 fg) 181 f_6)) H := by rw [ef_6]; exact x_trP hP grw_s1
              have hD : va_D A (grw y ad (tI (tI σ 181 fg) 181 f_6)) := by rw [ef_6]; exact x_trD hD grw_s1
              refine lv_aload_n hx hb dX1_fits_46 rfl (lv_at hl 4 rfl) ?_
              refine lv_iload_n hx hb dX1_fits_47 rfl (lv_at hl 3 rfl) ?_
              refine lv_iconst (v := 1) hx hb dX1_fits_48 (by decide) ?_
              refine lv_iadd hx hb dX1_fits_49 ?_
              refine lv_topi (fun i_7 ei_7 => ?_)
              have vi_7 : i_7.toInt = a.toInt + 1 := by have h9 := x_add ei_7 (by omega) (by omega); omega
              refine lv_iload hx hb dX1_fits_50 (lv_at hl 0 rfl) ?_
              refine lv_iload_n hx hb dX1_fits_52 rfl (lv_at hl 2 rfl) ?_
              refine lv_icmp_ne (tgt := 62) hx hb dX1_fits_53 (by decide) (fun c_8 => ?_) (fun c_8 => ?_)
              · have kc_8 : i.toInt ≠ b.toInt := by have h9 := c_8; simp only [ge_iff_le, gt_iff_lt, x_lt, x_le, x_eq, ne_eq, Int32.not_lt, Int32.not_le] at h9; omega
                refine lv_iload_n hx hb dX1_fits_62 rfl (lv_at hl 2 rfl) ?_
                refine lv_iload_n hx hb dX1_fits_63 rfl (lv_at hl 1 rfl) ?_
                refine x_calliW (va_runV (As := [.int i_7, .int b, .int mo]) (rest := []) ⟨hx, hb, hml, hown, hts⟩ (g_fits0 l D y H.size ad (tI (tI σ 181 fg) 181 f_6) i_7 b mo (by first | omega | decide) (by first | omega | decide) (by first | omega | decide) (by first | omega | decide) (by first | omega | decide) (show 0 ≤ ((σ.1 183)).toInt from by first | omega | decide) (show ((σ.1 183)).toInt ≤ 8 from by first | omega | decide)) (cwV 3 hts g_g_fits1_1 rfl rfl rfl (by decide +kernel) ⟨Nat.le_of_ble_eq_true rfl, Nat.le_of_ble_eq_true rfl⟩) (x_preV (q := (RX1, TX1, 3)) hK hP hD (ci := 0) (q0 := 0) rfl grw_o0) rfl rfl hl.1 rfl (lv_room (Nat.le_of_ble_eq_true rfl)) dX1_fits_64 ⟨Nat.le_of_ble_eq_true rfl, Nat.le_of_ble_eq_true rfl⟩) hP hD hS hA (fun r_9 u H locs hw hP hD hS => ?_)
                obtain ⟨f_10, rfl⟩ : ∃ z9, z9 = u := ⟨_, rfl⟩
                try dsimp only at hw
                have hP : va_P D vwCl (grw y ad (tI (tI (tI σ 181 fg) 181 f_6) 181 f_10)) H := hP
                have hD : va_D A (grw y ad (tI (tI (tI σ 181 fg) 181 f_6) 181 f_10)) := hD
                refine lv_if_eq (tgt := 72) hx hb dX1_fits_67 (by decide) (fun c_11 => ?_) (fun c_11 => ?_)
                · have kc_11 : r_9.toInt = 0 := by have h9 := c_11; simp only [ge_iff_le, gt_iff_lt, x_lt, x_le, x_eq, ne_eq, Int32.not_lt, Int32.not_le] at h9; simp only [Int32.reduceToInt] at h9; omega
                  obtain ⟨i_12, ei_12⟩ : ∃ z9 : Int32, z9 = i + 1 := ⟨_, rfl⟩
                  have vi_12 : i_12.toInt = i.toInt + 1 := by have h9 := x_add ei_12 (by omega) (by omega); omega
                  refine lv_iinc (v := i_12) (lv' := [(4, .int i_12), (3, .int mo), (2, .int b), (1, .int a), (0, .ref (ad 180))]) hx hb dX1_fits_72 hl (k := 0) rfl (by rw [ei_12]; rfl) (by decide) rfl (fun ls hl => ?_)
                  refine lv_goto (tgt := 13) hx hb dX1_fits_75 (by decide) ?_
                  have hP : va_P D vwCl (grw y ad (tI σ 181 f_10)) H := hP
                  have hD : va_D A (grw y ad (tI σ 181 f_10)) := hD
                  exact ih_loop i_12 f_10 H locs ls (by omega) (by omega) (by omega) hP hD hS (lv_sub hl [0, 1, 2, 3, 4] rfl)
                · have kc_11 : r_9.toInt ≠ 0 := by have h9 := c_11; simp only [ge_iff_le, gt_iff_lt, x_lt, x_le, x_eq, ne_eq, Int32.not_lt, Int32.not_le] at h9; simp only [Int32.reduceToInt] at h9; omega
                  refine lv_iconst (v := 1) hx hb dX1_fits_70 (by decide) ?_
                  have hP : va_P D vwCl (grw y ad (tI σ 181 f_10)) H := hP
                  have hD : va_D A (grw y ad (tI σ 181 f_10)) := hD
                  exact x_zretW (v := 1) (u := f_10) hx hb hr hQ rfl (by decide) hP hD hK hS dX1_fits_71 hlocks
              · have kc_8 : i.toInt = b.toInt := by have h9 := c_8; simp only [ge_iff_le, gt_iff_lt, x_lt, x_le, x_eq, ne_eq, Int32.not_lt, Int32.not_le] at h9; omega
                refine lv_iload_n hx hb dX1_fits_56 rfl (lv_at hl 2 rfl) ?_
                refine lv_iconst (v := 1) hx hb dX1_fits_57 (by decide) ?_
                refine lv_iadd hx hb dX1_fits_58 ?_
                refine lv_topi (fun i_13 ei_13 => ?_)
                have vi_13 : i_13.toInt = b.toInt + 1 := by have h9 := x_add ei_13 (by omega) (by omega); omega
                refine lv_goto (tgt := 63) hx hb dX1_fits_59 (by decide) ?_
                refine lv_iload_n hx hb dX1_fits_63 rfl (lv_at hl 1 rfl) ?_
                refine x_calliW (va_runV (As := [.int i_7, .int i_13, .int mo]) (rest := []) ⟨hx, hb, hml, hown, hts⟩ (g_fits0 l D y H.size ad (tI (tI σ 181 fg) 181 f_6) i_7 i_13 mo (by first | omega | decide) (by first | omega | decide) (by first | omega | decide) (by first | omega | decide) (by first | omega | decide) (show 0 ≤ ((σ.1 183)).toInt from by first | omega | decide) (show ((σ.1 183)).toInt ≤ 8 from by first | omega | decide)) (cwV 3 hts g_g_fits1_1 rfl rfl rfl (by decide +kernel) ⟨Nat.le_of_ble_eq_true rfl, Nat.le_of_ble_eq_true rfl⟩) (x_preV (q := (RX1, TX1, 3)) hK hP hD (ci := 0) (q0 := 0) rfl grw_o0) rfl rfl hl.1 rfl (lv_room (Nat.le_of_ble_eq_true rfl)) dX1_fits_64 ⟨Nat.le_of_ble_eq_true rfl, Nat.le_of_ble_eq_true rfl⟩) hP hD hS hA (fun r_14 u H locs hw hP hD hS => ?_)
                obtain ⟨f_15, rfl⟩ : ∃ z9, z9 = u := ⟨_, rfl⟩
                try dsimp only at hw
                have hP : va_P D vwCl (grw y ad (tI (tI (tI σ 181 fg) 181 f_6) 181 f_15)) H := hP
                have hD : va_D A (grw y ad (tI (tI (tI σ 181 fg) 181 f_6) 181 f_15)) := hD
                refine lv_if_eq (tgt := 72) hx hb dX1_fits_67 (by decide) (fun c_16 => ?_) (fun c_16 => ?_)
                · have kc_16 : r_14.toInt = 0 := by have h9 := c_16; simp only [ge_iff_le, gt_iff_lt, x_lt, x_le, x_eq, ne_eq, Int32.not_lt, Int32.not_le] at h9; simp only [Int32.reduceToInt] at h9; omega
                  obtain ⟨i_17, ei_17⟩ : ∃ z9 : Int32, z9 = i + 1 := ⟨_, rfl⟩
                  have vi_17 : i_17.toInt = i.toInt + 1 := by have h9 := x_add ei_17 (by omega) (by omega); omega
                  refine lv_iinc (v := i_17) (lv' := [(4, .int i_17), (3, .int mo), (2, .int b), (1, .int a), (0, .ref (ad 180))]) hx hb dX1_fits_72 hl (k := 0) rfl (by rw [ei_17]; rfl) (by decide) rfl (fun ls hl => ?_)
                  refine lv_goto (tgt := 13) hx hb dX1_fits_75 (by decide) ?_
                  have hP : va_P D vwCl (grw y ad (tI σ 181 f_15)) H := hP
                  have hD : va_D A (grw y ad (tI σ 181 f_15)) := hD
                  exact ih_loop i_17 f_15 H locs ls (by omega) (by omega) (by omega) hP hD hS (lv_sub hl [0, 1, 2, 3, 4] rfl)
                · have kc_16 : r_14.toInt ≠ 0 := by have h9 := c_16; simp only [ge_iff_le, gt_iff_lt, x_lt, x_le, x_eq, ne_eq, Int32.not_lt, Int32.not_le] at h9; simp only [Int32.reduceToInt] at h9; omega
                  refine lv_iconst (v := 1) hx hb dX1_fits_70 (by decide) ?_
                  have hP : va_P D vwCl (grw y ad (tI σ 181 f_15)) H := hP
                  have hD : va_D A (grw y ad (tI σ 181 f_15)) := hD
                  exact x_zretW (v := 1) (u := f_15) hx hb hr hQ rfl (by decide) hP hD hK hS dX1_fits_71 hlocks
            · have kc_5 : r_4.toInt = 0 := by have h9 := c_5; simp only [ge_iff_le, gt_iff_lt, x_lt, x_le, x_eq, ne_eq, Int32.not_lt, Int32.not_le] at h9; simp only [Int32.reduceToInt] at h9; omega
              refine lv_goto (tgt := 72) hx hb dX1_fits_35 (by decide) ?_
              obtain ⟨i_18, ei_18⟩ : ∃ z9 : Int32, z9 = i + 1 := ⟨_, rfl⟩
              have vi_18 : i_18.toInt = i.toInt + 1 := by have h9 := x_add ei_18 (by omega) (by omega); omega
              refine lv_iinc (v := i_18) (lv' := [(4, .int i_18), (3, .int mo), (2, .int b), (1, .int a), (0, .ref (ad 180))]) hx hb dX1_fits_72 hl (k := 0) rfl (by rw [ei_18]; rfl) (by decide) rfl (fun ls hl => ?_)
              refine lv_goto (tgt := 13) hx hb dX1_fits_75 (by decide) ?_
              exact ih_loop i_18 fg H locs ls (by omega) (by omega) (by omega) hP hD hS (lv_sub hl [0, 1, 2, 3, 4] rfl)
    exact loop 10 0 (σ.2.2.1 181) H locs ls (by decide) (by omega) (by omega) hP hD hS (lv_sub hl [0, 4, 3, 2, 1] rfl)
  · have kc_1 : a.toInt ≥ (σ.1 183).toInt := by have h9 := c_1; simp only [ge_iff_le, gt_iff_lt, x_lt, x_le, x_eq, ne_eq, Int32.not_lt, Int32.not_le] at h9; omega
    refine lv_iconst (v := 1) hx hb dX1_fits_8 (by decide) ?_
    have hP : va_P D vwCl (grw y ad (tI σ 181 (σ.2.2.1 181))) H := hP
    have hD : va_D A (grw y ad (tI σ 181 (σ.2.2.1 181))) := hD
    exact x_zretW (v := 1) (u := (σ.2.2.1 181)) hx hb hr hQ rfl (by decide) hP hD hK hS dX1_fits_9 hlocks

def v_g_fits2 : List Cond := .code yX1_fits cX1_fits 5 (some .boolean) :: ([.fieldLink RX1 20 "SlopeRunner$Grouping" "inputs" "I", .fieldLink RX1 11 "SlopeRunner$Grouping" "group" "[I"] ++ ((wsV RX1 28 RX1 yX1_isFree v_g_isFree) ++ ((wsV RX1 24 RX1 yX1_fits v_g_fits1) ++ wsX10)))
theorem g_g_fits2_0 : GoodIn v_g_fits2 (wsV RX1 28 RX1 yX1_isFree v_g_isFree) := goodIn_sub (fun w h => List.mem_cons_of_mem _ (List.mem_append_right _ (List.mem_append_left _ h))) (by decide +kernel)
theorem g_g_fits2_1 : GoodIn v_g_fits2 (wsV RX1 24 RX1 yX1_fits v_g_fits1) := goodIn_sub (fun w h => List.mem_cons_of_mem _ (List.mem_append_right _ (List.mem_append_right _ (List.mem_append_left _ h)))) (by decide +kernel)
set_option maxHeartbeats 4000000 in
set_option maxRecDepth 100000 in
theorem g_fits2 (l : Launch) (D : va_G) (y : Nat → ClassId) (sz : Nat) (ad : Nat → Nat) (σ : OS) (a b mo : Int32) (ha0 : 0 ≤ a.toInt) (ha1 : a.toInt ≤ 8) (hb0 : 0 ≤ b.toInt) (hb1 : b.toInt ≤ a.toInt) (hd : 8 - a.toInt ≤ 2) (hin0 : 0 ≤ (σ.1 183).toInt) (hin1 : (σ.1 183).toInt ≤ 8) : Met l yX1_fits v_g_fits2 ({ frames := 2, cells := 0, slots := 0, locals := 48 } : Room) (va_Pc [.ref (ad 180), .int a, .int b, .int mo] (xPre D (xT y) (grw y ad σ) sz)) (va_Qi (fun (r : Int32) (u : (Nat → Int32)) => r.toInt = 0 ∨ r.toInt = 1) (fun (u : (Nat → Int32)) => xB D (xT y) (va_A (grw y ad σ) sz) (grw y ad (tI σ 181 u))) (va_A (grw y ad σ) sz)) 0 0 (va_A (grw y ad σ) sz) := by
  refine x_meti (cc := cX1_fits) (maxL := 5) (by decide) rfl (Nat.le_of_ble_eq_true rfl) ?_
  intro p e s m below meth c A H locs Q hx hb hml hown hts hr hlocks hmn hA hP hK hD hS ls hl hQ
  have hl : lv_has ls 5 [(0, .ref (ad 180)), (1, .int a), (2, .int b), (3, .int mo)] := hl
  have fl20 := hts (.fieldLink RX1 20 "SlopeRunner$Grouping" "inputs" "I") (List.mem_of_getElem? (i := 1) rfl)
  have inX1 : ∀ w ∈ wsX10, w ∈ v_g_fits2 := (fun w h => List.mem_cons_of_mem _ (List.mem_append_right _ (List.mem_append_right _ (List.mem_append_right _ h))))
  have kk_0 : (0 : Int32).toInt = 0 := rfl
  have fl11 := hts (.fieldLink RX1 11 "SlopeRunner$Grouping" "group" "[I") (List.mem_of_getElem? (i := 2) rfl)
  have kk_1 : (1 : Int32).toInt = 1 := rfl
  refine lv_iload_n hx hb dX1_fits_0 rfl (lv_at hl 1 rfl) ?_
  refine lv_aload_n hx hb dX1_fits_1 rfl (lv_at hl 0 rfl) ?_
  refine va_get (D := D) (ci := 0) (v := .int (σ.1 183)) (C := RX1) (T := TX1) (N := 3) hx hb hts inX1 hown hK hP 0 grw_o0 rfl 2 (by decide) fl20 (fun _ h9 => h9) rfl dX1_fits_2 ?_
  refine lv_icmp_lt (tgt := 10) hx hb dX1_fits_5 (by decide) (fun c_1 => ?_) (fun c_1 => ?_)
  · have kc_1 : a.toInt < (σ.1 183).toInt := by have h9 := c_1; simp only [ge_iff_le, gt_iff_lt, x_lt, x_le, x_eq, ne_eq, Int32.not_lt, Int32.not_le] at h9; omega
    refine lv_iconst (v := 0) hx hb dX1_fits_10 (by decide) ?_
    refine lv_istore (lv' := [(4, .int 0), (0, .ref (ad 180)), (1, .int a), (2, .int b), (3, .int mo)]) hx hb dX1_fits_11 hl (by decide) rfl (fun ls hl => ?_)
    have l00 : (0 : Int32).toInt = 0 := rfl
    have hP : va_P D vwCl (grw y ad (tI σ 181 (σ.2.2.1 181))) H := hP
    have hD : va_D A (grw y ad (tI σ 181 (σ.2.2.1 181))) := hD
    have loop : ∀ (fu : Nat) (i : Int32) (fg : Nat → Int32) (H : Heap) (locs : List Loc) (ls : Array Slot), (0 ≤ i.toInt) → (i.toInt ≤ b.toInt + 1) → (b.toInt + 1 - i.toInt < (fu : Int)) → va_P D vwCl (grw y ad (tI σ 181 fg)) H → va_D A (grw y ad (tI σ 181 fg)) → va_S A s.heap H locs → lv_has ls 5 [(4, .int i), (3, .int mo), (2, .int b), (1, .int a), (0, .ref (ad 180))] → W p l e ({ frames := 2, cells := 0, slots := 0, locals := 48 } : Room) s m ([.ref (ad 180), .int a, .int b, .int mo] : List Value).toArray below meth c H locs 0 0 Q (F0 m 13 ls []) := by
      intro fu
      induction fu with
      | zero =>
        intro i fg H locs ls hi0 hi1 hm
        exact absurd hm (by omega)
      | succ fu ih_loop =>
        intro i fg H locs ls hi0 hi1 hm hP hD hS hl
        refine lv_iload hx hb dX1_fits_13 (lv_at hl 0 rfl) ?_
        refine lv_iload_n hx hb dX1_fits_15 rfl (lv_at hl 2 rfl) ?_
        refine lv_icmp_gt (tgt := 78) hx hb dX1_fits_16 (by decide) (fun c_2 => ?_) (fun c_2 => ?_)
        · have kc_2 : i.toInt > b.toInt := by have h9 := c_2; simp only [ge_iff_le, gt_iff_lt, x_lt, x_le, x_eq, ne_eq, Int32.not_lt, Int32.not_le] at h9; omega
          refine lv_iconst (v := 0) hx hb dX1_fits_78 (by decide) ?_
          exact x_zretW (v := 0) (u := fg) hx hb hr hQ rfl (by decide) hP hD hK hS dX1_fits_79 hlocks
        · have kc_2 : i.toInt ≤ b.toInt := by have h9 := c_2; simp only [ge_iff_le, gt_iff_lt, x_lt, x_le, x_eq, ne_eq, Int32.not_lt, Int32.not_le] at h9; omega
          refine lv_iload hx hb dX1_fits_19 (lv_at hl 0 rfl) ?_
          refine lv_iload_n hx hb dX1_fits_21 rfl (lv_at hl 1 rfl) ?_
          refine lv_icmp_ge (tgt := 78) hx hb dX1_fits_22 (by decide) (fun c_3 => ?_) (fun c_3 => ?_)
          · have kc_3 : i.toInt ≥ mo.toInt := by have h9 := c_3; simp only [ge_iff_le, gt_iff_lt, x_lt, x_le, x_eq, ne_eq, Int32.not_lt, Int32.not_le] at h9; omega
            refine lv_iconst (v := 0) hx hb dX1_fits_78 (by decide) ?_
            exact x_zretW (v := 0) (u := fg) hx hb hr hQ rfl (by decide) hP hD hK hS dX1_fits_79 hlocks
          · have kc_3 : i.toInt < mo.toInt := by have h9 := c_3; simp only [ge_iff_le, gt_iff_lt, x_lt, x_le, x_eq, ne_eq, Int32.not_lt, Int32.not_le] at h9; omega
            refine lv_aload_n hx hb dX1_fits_25 rfl (lv_at hl 4 rfl) ?_
            refine lv_iload_n hx hb dX1_fits_26 rfl (lv_at hl 3 rfl) ?_
            refine lv_iload hx hb dX1_fits_27 (lv_at hl 0 rfl) ?_
            refine x_calliW (va_runV (As := [.int a, .int i]) (rest := []) ⟨hx, hb, hml, hown, hts⟩ (g_isFree l D y H.size ad (tI σ 181 fg) a i (by first | omega | decide) (by first | omega | decide)) (cwV 2 hts g_g_fits2_0 rfl rfl rfl (by decide +kernel) ⟨Nat.le_of_ble_eq_true rfl, Nat.le_of_ble_eq_true rfl⟩) (x_preV (q := (RX1, TX1, 3)) hK hP hD (ci := 0) (q0 := 0) rfl grw_o0) rfl rfl hl.1 rfl (lv_room (Nat.le_of_ble_eq_true rfl)) dX1_fits_29 ⟨Nat.le_of_ble_eq_true rfl, Nat.le_of_ble_eq_true rfl⟩) hP hD hS hA (fun r_4 u H locs hw hP hD hS => ?_)
            try dsimp only at hw
            have hP : va_P D vwCl (grw y ad (tI σ 181 fg)) H := hP
            have hD : va_D A (grw y ad (tI σ 181 fg)) := hD
            refine lv_if_ne (tgt := 38) hx hb dX1_fits_32 (by decide) (fun c_5 => ?_) (fun c_5 => ?_)
            · have kc_5 : r_4.toInt ≠ 0 := by have h9 := c_5; simp only [ge_iff_le, gt_iff_lt, x_lt, x_le, x_eq, ne_eq, Int32.not_lt, Int32.not_le] at h9; simp only [Int32.reduceToInt] at h9; omega
              refine lv_aload_n hx hb dX1_fits_38 rfl (lv_at hl 4 rfl) ?_
              refine va_get (D := D) (ci := 0) (v := .ref (ad 181)) (C := RX1) (T := TX1) (N := 3) hx hb hts inX1 hown hK hP 0 grw_o0 rfl 0 (by decide) fl11 (fun _ h9 => h9) rfl dX1_fits_39 ?_
              refine lv_iload_n hx hb dX1_fits_42 rfl (lv_at hl 3 rfl) ?_
              refine lv_iload hx hb dX1_fits_43 (lv_at hl 0 rfl) ?_
              refine va_iast hx hb hK hP hD hS 1 2 grw_a1 rfl (x_in (by omega) (by omega)) dX1_fits_45 (fun H locs hP hD hS => ?_)
              obtain ⟨f_6, ef_6⟩ : ∃ z9 : Nat → Int32, z9 = (upd fg (Int32.toNatClampNeg a) i) := ⟨_, rfl⟩
              have hP : va_P D vwCl (grw y ad (tI (tI σ 181 fg) 181 f_6)) H := by rw [ef_6]; exact x_trP hP grw_s1
              have hD : va_D A (grw y ad (tI (tI σ 181 fg) 181 f_6)) := by rw [ef_6]; exact x_trD hD grw_s1
              refine lv_aload_n hx hb dX1_fits_46 rfl (lv_at hl 4 rfl) ?_
              refine lv_iload_n hx hb dX1_fits_47 rfl (lv_at hl 3 rfl) ?_
              refine lv_iconst (v := 1) hx hb dX1_fits_48 (by decide) ?_
              refine lv_iadd hx hb dX1_fits_49 ?_
              refine lv_topi (fun i_7 ei_7 => ?_)
              have vi_7 : i_7.toInt = a.toInt + 1 := by have h9 := x_add ei_7 (by omega) (by omega); omega
              refine lv_iload hx hb dX1_fits_50 (lv_at hl 0 rfl) ?_
              refine lv_iload_n hx hb dX1_fits_52 rfl (lv_at hl 2 rfl) ?_
              refine lv_icmp_ne (tgt := 62) hx hb dX1_fits_53 (by decide) (fun c_8 => ?_) (fun c_8 => ?_)
              · have kc_8 : i.toInt ≠ b.toInt := by have h9 := c_8; simp only [ge_iff_le, gt_iff_lt, x_lt, x_le, x_eq, ne_eq, Int32.not_lt, Int32.not_le] at h9; omega
                refine lv_iload_n hx hb dX1_fits_62 rfl (lv_at hl 2 rfl) ?_
                refine lv_iload_n hx hb dX1_fits_63 rfl (lv_at hl 1 rfl) ?_
                refine x_calliW (va_runV (As := [.int i_7, .int b, .int mo]) (rest := []) ⟨hx, hb, hml, hown, hts⟩ (g_fits1 l D y H.size ad (tI (tI σ 181 fg) 181 f_6) i_7 b mo (by first | omega | decide) (by first | omega | decide) (by first | omega | decide) (by first | omega | decide) (by first | omega | decide) (show 0 ≤ ((σ.1 183)).toInt from by first | omega | decide) (show ((σ.1 183)).toInt ≤ 8 from by first | omega | decide)) (cwV 3 hts g_g_fits2_1 rfl rfl rfl (by decide +kernel) ⟨Nat.le_of_ble_eq_true rfl, Nat.le_of_ble_eq_true rfl⟩) (x_preV (q := (RX1, TX1, 3)) hK hP hD (ci := 0) (q0 := 0) rfl grw_o0) rfl rfl hl.1 rfl (lv_room (Nat.le_of_ble_eq_true rfl)) dX1_fits_64 ⟨Nat.le_of_ble_eq_true rfl, Nat.le_of_ble_eq_true rfl⟩) hP hD hS hA (fun r_9 u H locs hw hP hD hS => ?_)
                obtain ⟨f_10, rfl⟩ : ∃ z9, z9 = u := ⟨_, rfl⟩
                try dsimp only at hw
                have hP : va_P D vwCl (grw y ad (tI (tI (tI σ 181 fg) 181 f_6) 181 f_10)) H := hP
                have hD : va_D A (grw y ad (tI (tI (tI σ 181 fg) 181 f_6) 181 f_10)) := hD
                refine lv_if_eq (tgt := 72) hx hb dX1_fits_67 (by decide) (fun c_11 => ?_) (fun c_11 => ?_)
                · have kc_11 : r_9.toInt = 0 := by have h9 := c_11; simp only [ge_iff_le, gt_iff_lt, x_lt, x_le, x_eq, ne_eq, Int32.not_lt, Int32.not_le] at h9; simp only [Int32.reduceToInt] at h9; omega
                  obtain ⟨i_12, ei_12⟩ : ∃ z9 : Int32, z9 = i + 1 := ⟨_, rfl⟩
                  have vi_12 : i_12.toInt = i.toInt + 1 := by have h9 := x_add ei_12 (by omega) (by omega); omega
                  refine lv_iinc (v := i_12) (lv' := [(4, .int i_12), (3, .int mo), (2, .int b), (1, .int a), (0, .ref (ad 180))]) hx hb dX1_fits_72 hl (k := 0) rfl (by rw [ei_12]; rfl) (by decide) rfl (fun ls hl => ?_)
                  refine lv_goto (tgt := 13) hx hb dX1_fits_75 (by decide) ?_
                  have hP : va_P D vwCl (grw y ad (tI σ 181 f_10)) H := hP
                  have hD : va_D A (grw y ad (tI σ 181 f_10)) := hD
                  exact ih_loop i_12 f_10 H locs ls (by omega) (by omega) (by omega) hP hD hS (lv_sub hl [0, 1, 2, 3, 4] rfl)
                · have kc_11 : r_9.toInt ≠ 0 := by have h9 := c_11; simp only [ge_iff_le, gt_iff_lt, x_lt, x_le, x_eq, ne_eq, Int32.not_lt, Int32.not_le] at h9; simp only [Int32.reduceToInt] at h9; omega
                  refine lv_iconst (v := 1) hx hb dX1_fits_70 (by decide) ?_
                  have hP : va_P D vwCl (grw y ad (tI σ 181 f_10)) H := hP
                  have hD : va_D A (grw y ad (tI σ 181 f_10)) := hD
                  exact x_zretW (v := 1) (u := f_10) hx hb hr hQ rfl (by decide) hP hD hK hS dX1_fits_71 hlocks
              · have kc_8 : i.toInt = b.toInt := by have h9 := c_8; simp only [ge_iff_le, gt_iff_lt, x_lt, x_le, x_eq, ne_eq, Int32.not_lt, Int32.not_le] at h9; omega
                refine lv_iload_n hx hb dX1_fits_56 rfl (lv_at hl 2 rfl) ?_
                refine lv_iconst (v := 1) hx hb dX1_fits_57 (by decide) ?_
                refine lv_iadd hx hb dX1_fits_58 ?_
                refine lv_topi (fun i_13 ei_13 => ?_)
                have vi_13 : i_13.toInt = b.toInt + 1 := by have h9 := x_add ei_13 (by omega) (by omega); omega
                refine lv_goto (tgt := 63) hx hb dX1_fits_59 (by decide) ?_
                refine lv_iload_n hx hb dX1_fits_63 rfl (lv_at hl 1 rfl) ?_
                refine x_calliW (va_runV (As := [.int i_7, .int i_13, .int mo]) (rest := []) ⟨hx, hb, hml, hown, hts⟩ (g_fits1 l D y H.size ad (tI (tI σ 181 fg) 181 f_6) i_7 i_13 mo (by first | omega | decide) (by first | omega | decide) (by first | omega | decide) (by first | omega | decide) (by first | omega | decide) (show 0 ≤ ((σ.1 183)).toInt from by first | omega | decide) (show ((σ.1 183)).toInt ≤ 8 from by first | omega | decide)) (cwV 3 hts g_g_fits2_1 rfl rfl rfl (by decide +kernel) ⟨Nat.le_of_ble_eq_true rfl, Nat.le_of_ble_eq_true rfl⟩) (x_preV (q := (RX1, TX1, 3)) hK hP hD (ci := 0) (q0 := 0) rfl grw_o0) rfl rfl hl.1 rfl (lv_room (Nat.le_of_ble_eq_true rfl)) dX1_fits_64 ⟨Nat.le_of_ble_eq_true rfl, Nat.le_of_ble_eq_true rfl⟩) hP hD hS hA (fun r_14 u H locs hw hP hD hS => ?_)
                obtain ⟨f_15, rfl⟩ : ∃ z9, z9 = u := ⟨_, rfl⟩
                try dsimp only at hw
                have hP : va_P D vwCl (grw y ad (tI (tI (tI σ 181 fg) 181 f_6) 181 f_15)) H := hP
                have hD : va_D A (grw y ad (tI (tI (tI σ 181 fg) 181 f_6) 181 f_15)) := hD
                refine lv_if_eq (tgt := 72) hx hb dX1_fits_67 (by decide) (fun c_16 => ?_) (fun c_16 => ?_)
                · have kc_16 : r_14.toInt = 0 := by have h9 := c_16; simp only [ge_iff_le, gt_iff_lt, x_lt, x_le, x_eq, ne_eq, Int32.not_lt, Int32.not_le] at h9; simp only [Int32.reduceToInt] at h9; omega
                  obtain ⟨i_17, ei_17⟩ : ∃ z9 : Int32, z9 = i + 1 := ⟨_, rfl⟩
                  have vi_17 : i_17.toInt = i.toInt + 1 := by have h9 := x_add ei_17 (by omega) (by omega); omega
                  refine lv_iinc (v := i_17) (lv' := [(4, .int i_17), (3, .int mo), (2, .int b), (1, .int a), (0, .ref (ad 180))]) hx hb dX1_fits_72 hl (k := 0) rfl (by rw [ei_17]; rfl) (by decide) rfl (fun ls hl => ?_)
                  refine lv_goto (tgt := 13) hx hb dX1_fits_75 (by decide) ?_
                  have hP : va_P D vwCl (grw y ad (tI σ 181 f_15)) H := hP
                  have hD : va_D A (grw y ad (tI σ 181 f_15)) := hD
                  exact ih_loop i_17 f_15 H locs ls (by omega) (by omega) (by omega) hP hD hS (lv_sub hl [0, 1, 2, 3, 4] rfl)
                · have kc_16 : r_14.toInt ≠ 0 := by have h9 := c_16; simp only [ge_iff_le, gt_iff_lt, x_lt, x_le, x_eq, ne_eq, Int32.not_lt, Int32.not_le] at h9; simp only [Int32.reduceToInt] at h9; omega
                  refine lv_iconst (v := 1) hx hb dX1_fits_70 (by decide) ?_
                  have hP : va_P D vwCl (grw y ad (tI σ 181 f_15)) H := hP
                  have hD : va_D A (grw y ad (tI σ 181 f_15)) := hD
                  exact x_zretW (v := 1) (u := f_15) hx hb hr hQ rfl (by decide) hP hD hK hS dX1_fits_71 hlocks
            · have kc_5 : r_4.toInt = 0 := by have h9 := c_5; simp only [ge_iff_le, gt_iff_lt, x_lt, x_le, x_eq, ne_eq, Int32.not_lt, Int32.not_le] at h9; simp only [Int32.reduceToInt] at h9; omega
              refine lv_goto (tgt := 72) hx hb dX1_fits_35 (by decide) ?_
              obtain ⟨i_18, ei_18⟩ : ∃ z9 : Int32, z9 = i + 1 := ⟨_, rfl⟩
              have vi_18 : i_18.toInt = i.toInt + 1 := by have h9 := x_add ei_18 (by omega) (by omega); omega
              refine lv_iinc (v := i_18) (lv' := [(4, .int i_18), (3, .int mo), (2, .int b), (1, .int a), (0, .ref (ad 180))]) hx hb dX1_fits_72 hl (k := 0) rfl (by rw [ei_18]; rfl) (by decide) rfl (fun ls hl => ?_)
              refine lv_goto (tgt := 13) hx hb dX1_fits_75 (by decide) ?_
              exact ih_loop i_18 fg H locs ls (by omega) (by omega) (by omega) hP hD hS (lv_sub hl [0, 1, 2, 3, 4] rfl)
    exact loop 10 0 (σ.2.2.1 181) H locs ls (by decide) (by omega) (by omega) hP hD hS (lv_sub hl [0, 4, 3, 2, 1] rfl)
  · have kc_1 : a.toInt ≥ (σ.1 183).toInt := by have h9 := c_1; simp only [ge_iff_le, gt_iff_lt, x_lt, x_le, x_eq, ne_eq, Int32.not_lt, Int32.not_le] at h9; omega
    refine lv_iconst (v := 1) hx hb dX1_fits_8 (by decide) ?_
    have hP : va_P D vwCl (grw y ad (tI σ 181 (σ.2.2.1 181))) H := hP
    have hD : va_D A (grw y ad (tI σ 181 (σ.2.2.1 181))) := hD
    exact x_zretW (v := 1) (u := (σ.2.2.1 181)) hx hb hr hQ rfl (by decide) hP hD hK hS dX1_fits_9 hlocks

def v_g_fits3 : List Cond := .code yX1_fits cX1_fits 5 (some .boolean) :: ([.fieldLink RX1 20 "SlopeRunner$Grouping" "inputs" "I", .fieldLink RX1 11 "SlopeRunner$Grouping" "group" "[I"] ++ ((wsV RX1 28 RX1 yX1_isFree v_g_isFree) ++ ((wsV RX1 24 RX1 yX1_fits v_g_fits2) ++ wsX10)))
theorem g_g_fits3_0 : GoodIn v_g_fits3 (wsV RX1 28 RX1 yX1_isFree v_g_isFree) := goodIn_sub (fun w h => List.mem_cons_of_mem _ (List.mem_append_right _ (List.mem_append_left _ h))) (by decide +kernel)
theorem g_g_fits3_1 : GoodIn v_g_fits3 (wsV RX1 24 RX1 yX1_fits v_g_fits2) := goodIn_sub (fun w h => List.mem_cons_of_mem _ (List.mem_append_right _ (List.mem_append_right _ (List.mem_append_left _ h)))) (by decide +kernel)
set_option maxHeartbeats 4000000 in
set_option maxRecDepth 100000 in
theorem g_fits3 (l : Launch) (D : va_G) (y : Nat → ClassId) (sz : Nat) (ad : Nat → Nat) (σ : OS) (a b mo : Int32) (ha0 : 0 ≤ a.toInt) (ha1 : a.toInt ≤ 8) (hb0 : 0 ≤ b.toInt) (hb1 : b.toInt ≤ a.toInt) (hd : 8 - a.toInt ≤ 3) (hin0 : 0 ≤ (σ.1 183).toInt) (hin1 : (σ.1 183).toInt ≤ 8) : Met l yX1_fits v_g_fits3 ({ frames := 3, cells := 0, slots := 0, locals := 72 } : Room) (va_Pc [.ref (ad 180), .int a, .int b, .int mo] (xPre D (xT y) (grw y ad σ) sz)) (va_Qi (fun (r : Int32) (u : (Nat → Int32)) => r.toInt = 0 ∨ r.toInt = 1) (fun (u : (Nat → Int32)) => xB D (xT y) (va_A (grw y ad σ) sz) (grw y ad (tI σ 181 u))) (va_A (grw y ad σ) sz)) 0 0 (va_A (grw y ad σ) sz) := by
  refine x_meti (cc := cX1_fits) (maxL := 5) (by decide) rfl (Nat.le_of_ble_eq_true rfl) ?_
  intro p e s m below meth c A H locs Q hx hb hml hown hts hr hlocks hmn hA hP hK hD hS ls hl hQ
  have hl : lv_has ls 5 [(0, .ref (ad 180)), (1, .int a), (2, .int b), (3, .int mo)] := hl
  have fl20 := hts (.fieldLink RX1 20 "SlopeRunner$Grouping" "inputs" "I") (List.mem_of_getElem? (i := 1) rfl)
  have inX1 : ∀ w ∈ wsX10, w ∈ v_g_fits3 := (fun w h => List.mem_cons_of_mem _ (List.mem_append_right _ (List.mem_append_right _ (List.mem_append_right _ h))))
  have kk_0 : (0 : Int32).toInt = 0 := rfl
  have fl11 := hts (.fieldLink RX1 11 "SlopeRunner$Grouping" "group" "[I") (List.mem_of_getElem? (i := 2) rfl)
  have kk_1 : (1 : Int32).toInt = 1 := rfl
  refine lv_iload_n hx hb dX1_fits_0 rfl (lv_at hl 1 rfl) ?_
  refine lv_aload_n hx hb dX1_fits_1 rfl (lv_at hl 0 rfl) ?_
  refine va_get (D := D) (ci := 0) (v := .int (σ.1 183)) (C := RX1) (T := TX1) (N := 3) hx hb hts inX1 hown hK hP 0 grw_o0 rfl 2 (by decide) fl20 (fun _ h9 => h9) rfl dX1_fits_2 ?_
  refine lv_icmp_lt (tgt := 10) hx hb dX1_fits_5 (by decide) (fun c_1 => ?_) (fun c_1 => ?_)
  · have kc_1 : a.toInt < (σ.1 183).toInt := by have h9 := c_1; simp only [ge_iff_le, gt_iff_lt, x_lt, x_le, x_eq, ne_eq, Int32.not_lt, Int32.not_le] at h9; omega
    refine lv_iconst (v := 0) hx hb dX1_fits_10 (by decide) ?_
    refine lv_istore (lv' := [(4, .int 0), (0, .ref (ad 180)), (1, .int a), (2, .int b), (3, .int mo)]) hx hb dX1_fits_11 hl (by decide) rfl (fun ls hl => ?_)
    have l00 : (0 : Int32).toInt = 0 := rfl
    have hP : va_P D vwCl (grw y ad (tI σ 181 (σ.2.2.1 181))) H := hP
    have hD : va_D A (grw y ad (tI σ 181 (σ.2.2.1 181))) := hD
    have loop : ∀ (fu : Nat) (i : Int32) (fg : Nat → Int32) (H : Heap) (locs : List Loc) (ls : Array Slot), (0 ≤ i.toInt) → (i.toInt ≤ b.toInt + 1) → (b.toInt + 1 - i.toInt < (fu : Int)) → va_P D vwCl (grw y ad (tI σ 181 fg)) H → va_D A (grw y ad (tI σ 181 fg)) → va_S A s.heap H locs → lv_has ls 5 [(4, .int i), (3, .int mo), (2, .int b), (1, .int a), (0, .ref (ad 180))] → W p l e ({ frames := 3, cells := 0, slots := 0, locals := 72 } : Room) s m ([.ref (ad 180), .int a, .int b, .int mo] : List Value).toArray below meth c H locs 0 0 Q (F0 m 13 ls []) := by
      intro fu
      induction fu with
      | zero =>
        intro i fg H locs ls hi0 hi1 hm
        exact absurd hm (by omega)
      | succ fu ih_loop =>
        intro i fg H locs ls hi0 hi1 hm hP hD hS hl
        refine lv_iload hx hb dX1_fits_13 (lv_at hl 0 rfl) ?_
        refine lv_iload_n hx hb dX1_fits_15 rfl (lv_at hl 2 rfl) ?_
        refine lv_icmp_gt (tgt := 78) hx hb dX1_fits_16 (by decide) (fun c_2 => ?_) (fun c_2 => ?_)
        · have kc_2 : i.toInt > b.toInt := by have h9 := c_2; simp only [ge_iff_le, gt_iff_lt, x_lt, x_le, x_eq, ne_eq, Int32.not_lt, Int32.not_le] at h9; omega
          refine lv_iconst (v := 0) hx hb dX1_fits_78 (by decide) ?_
          exact x_zretW (v := 0) (u := fg) hx hb hr hQ rfl (by decide) hP hD hK hS dX1_fits_79 hlocks
        · have kc_2 : i.toInt ≤ b.toInt := by have h9 := c_2; simp only [ge_iff_le, gt_iff_lt, x_lt, x_le, x_eq, ne_eq, Int32.not_lt, Int32.not_le] at h9; omega
          refine lv_iload hx hb dX1_fits_19 (lv_at hl 0 rfl) ?_
          refine lv_iload_n hx hb dX1_fits_21 rfl (lv_at hl 1 rfl) ?_
          refine lv_icmp_ge (tgt := 78) hx hb dX1_fits_22 (by decide) (fun c_3 => ?_) (fun c_3 => ?_)
          · have kc_3 : i.toInt ≥ mo.toInt := by have h9 := c_3; simp only [ge_iff_le, gt_iff_lt, x_lt, x_le, x_eq, ne_eq, Int32.not_lt, Int32.not_le] at h9; omega
            refine lv_iconst (v := 0) hx hb dX1_fits_78 (by decide) ?_
            exact x_zretW (v := 0) (u := fg) hx hb hr hQ rfl (by decide) hP hD hK hS dX1_fits_79 hlocks
          · have kc_3 : i.toInt < mo.toInt := by have h9 := c_3; simp only [ge_iff_le, gt_iff_lt, x_lt, x_le, x_eq, ne_eq, Int32.not_lt, Int32.not_le] at h9; omega
            refine lv_aload_n hx hb dX1_fits_25 rfl (lv_at hl 4 rfl) ?_
            refine lv_iload_n hx hb dX1_fits_26 rfl (lv_at hl 3 rfl) ?_
            refine lv_iload hx hb dX1_fits_27 (lv_at hl 0 rfl) ?_
            refine x_calliW (va_runV (As := [.int a, .int i]) (rest := []) ⟨hx, hb, hml, hown, hts⟩ (g_isFree l D y H.size ad (tI σ 181 fg) a i (by first | omega | decide) (by first | omega | decide)) (cwV 2 hts g_g_fits3_0 rfl rfl rfl (by decide +kernel) ⟨Nat.le_of_ble_eq_true rfl, Nat.le_of_ble_eq_true rfl⟩) (x_preV (q := (RX1, TX1, 3)) hK hP hD (ci := 0) (q0 := 0) rfl grw_o0) rfl rfl hl.1 rfl (lv_room (Nat.le_of_ble_eq_true rfl)) dX1_fits_29 ⟨Nat.le_of_ble_eq_true rfl, Nat.le_of_ble_eq_true rfl⟩) hP hD hS hA (fun r_4 u H locs hw hP hD hS => ?_)
            try dsimp only at hw
            have hP : va_P D vwCl (grw y ad (tI σ 181 fg)) H := hP
            have hD : va_D A (grw y ad (tI σ 181 fg)) := hD
            refine lv_if_ne (tgt := 38) hx hb dX1_fits_32 (by decide) (fun c_5 => ?_) (fun c_5 => ?_)
            · have kc_5 : r_4.toInt ≠ 0 := by have h9 := c_5; simp only [ge_iff_le, gt_iff_lt, x_lt, x_le, x_eq, ne_eq, Int32.not_lt, Int32.not_le] at h9; simp only [Int32.reduceToInt] at h9; omega
              refine lv_aload_n hx hb dX1_fits_38 rfl (lv_at hl 4 rfl) ?_
              refine va_get (D := D) (ci := 0) (v := .ref (ad 181)) (C := RX1) (T := TX1) (N := 3) hx hb hts inX1 hown hK hP 0 grw_o0 rfl 0 (by decide) fl11 (fun _ h9 => h9) rfl dX1_fits_39 ?_
              refine lv_iload_n hx hb dX1_fits_42 rfl (lv_at hl 3 rfl) ?_
              refine lv_iload hx hb dX1_fits_43 (lv_at hl 0 rfl) ?_
              refine va_iast hx hb hK hP hD hS 1 2 grw_a1 rfl (x_in (by omega) (by omega)) dX1_fits_45 (fun H locs hP hD hS => ?_)
              obtain ⟨f_6, ef_6⟩ : ∃ z9 : Nat → Int32, z9 = (upd fg (Int32.toNatClampNeg a) i) := ⟨_, rfl⟩
              have hP : va_P D vwCl (grw y ad (tI (tI σ 181 fg) 181 f_6)) H := by rw [ef_6]; exact x_trP hP grw_s1
              have hD : va_D A (grw y ad (tI (tI σ 181 fg) 181 f_6)) := by rw [ef_6]; exact x_trD hD grw_s1
              refine lv_aload_n hx hb dX1_fits_46 rfl (lv_at hl 4 rfl) ?_
              refine lv_iload_n hx hb dX1_fits_47 rfl (lv_at hl 3 rfl) ?_
              refine lv_iconst (v := 1) hx hb dX1_fits_48 (by decide) ?_
              refine lv_iadd hx hb dX1_fits_49 ?_
              refine lv_topi (fun i_7 ei_7 => ?_)
              have vi_7 : i_7.toInt = a.toInt + 1 := by have h9 := x_add ei_7 (by omega) (by omega); omega
              refine lv_iload hx hb dX1_fits_50 (lv_at hl 0 rfl) ?_
              refine lv_iload_n hx hb dX1_fits_52 rfl (lv_at hl 2 rfl) ?_
              refine lv_icmp_ne (tgt := 62) hx hb dX1_fits_53 (by decide) (fun c_8 => ?_) (fun c_8 => ?_)
              · have kc_8 : i.toInt ≠ b.toInt := by have h9 := c_8; simp only [ge_iff_le, gt_iff_lt, x_lt, x_le, x_eq, ne_eq, Int32.not_lt, Int32.not_le] at h9; omega
                refine lv_iload_n hx hb dX1_fits_62 rfl (lv_at hl 2 rfl) ?_
                refine lv_iload_n hx hb dX1_fits_63 rfl (lv_at hl 1 rfl) ?_
                refine x_calliW (va_runV (As := [.int i_7, .int b, .int mo]) (rest := []) ⟨hx, hb, hml, hown, hts⟩ (g_fits2 l D y H.size ad (tI (tI σ 181 fg) 181 f_6) i_7 b mo (by first | omega | decide) (by first | omega | decide) (by first | omega | decide) (by first | omega | decide) (by first | omega | decide) (show 0 ≤ ((σ.1 183)).toInt from by first | omega | decide) (show ((σ.1 183)).toInt ≤ 8 from by first | omega | decide)) (cwV 3 hts g_g_fits3_1 rfl rfl rfl (by decide +kernel) ⟨Nat.le_of_ble_eq_true rfl, Nat.le_of_ble_eq_true rfl⟩) (x_preV (q := (RX1, TX1, 3)) hK hP hD (ci := 0) (q0 := 0) rfl grw_o0) rfl rfl hl.1 rfl (lv_room (Nat.le_of_ble_eq_true rfl)) dX1_fits_64 ⟨Nat.le_of_ble_eq_true rfl, Nat.le_of_ble_eq_true rfl⟩) hP hD hS hA (fun r_9 u H locs hw hP hD hS => ?_)
                obtain ⟨f_10, rfl⟩ : ∃ z9, z9 = u := ⟨_, rfl⟩
                try dsimp only at hw
                have hP : va_P D vwCl (grw y ad (tI (tI (tI σ 181 fg) 181 f_6) 181 f_10)) H := hP
                have hD : va_D A (grw y ad (tI (tI (tI σ 181 fg) 181 f_6) 181 f_10)) := hD
                refine lv_if_eq (tgt := 72) hx hb dX1_fits_67 (by decide) (fun c_11 => ?_) (fun c_11 => ?_)
                · have kc_11 : r_9.toInt = 0 := by have h9 := c_11; simp only [ge_iff_le, gt_iff_lt, x_lt, x_le, x_eq, ne_eq, Int32.not_lt, Int32.not_le] at h9; simp only [Int32.reduceToInt] at h9; omega
                  obtain ⟨i_12, ei_12⟩ : ∃ z9 : Int32, z9 = i + 1 := ⟨_, rfl⟩
                  have vi_12 : i_12.toInt = i.toInt + 1 := by have h9 := x_add ei_12 (by omega) (by omega); omega
                  refine lv_iinc (v := i_12) (lv' := [(4, .int i_12), (3, .int mo), (2, .int b), (1, .int a), (0, .ref (ad 180))]) hx hb dX1_fits_72 hl (k := 0) rfl (by rw [ei_12]; rfl) (by decide) rfl (fun ls hl => ?_)
                  refine lv_goto (tgt := 13) hx hb dX1_fits_75 (by decide) ?_
                  have hP : va_P D vwCl (grw y ad (tI σ 181 f_10)) H := hP
                  have hD : va_D A (grw y ad (tI σ 181 f_10)) := hD
                  exact ih_loop i_12 f_10 H locs ls (by omega) (by omega) (by omega) hP hD hS (lv_sub hl [0, 1, 2, 3, 4] rfl)
                · have kc_11 : r_9.toInt ≠ 0 := by have h9 := c_11; simp only [ge_iff_le, gt_iff_lt, x_lt, x_le, x_eq, ne_eq, Int32.not_lt, Int32.not_le] at h9; simp only [Int32.reduceToInt] at h9; omega
                  refine lv_iconst (v := 1) hx hb dX1_fits_70 (by decide) ?_
                  have hP : va_P D vwCl (grw y ad (tI σ 181 f_10)) H := hP
                  have hD : va_D A (grw y ad (tI σ 181 f_10)) := hD
                  exact x_zretW (v := 1) (u := f_10) hx hb hr hQ rfl (by decide) hP hD hK hS dX1_fits_71 hlocks
              · have kc_8 : i.toInt = b.toInt := by have h9 := c_8; simp only [ge_iff_le, gt_iff_lt, x_lt, x_le, x_eq, ne_eq, Int32.not_lt, Int32.not_le] at h9; omega
                refine lv_iload_n hx hb dX1_fits_56 rfl (lv_at hl 2 rfl) ?_
                refine lv_iconst (v := 1) hx hb dX1_fits_57 (by decide) ?_
                refine lv_iadd hx hb dX1_fits_58 ?_
                refine lv_topi (fun i_13 ei_13 => ?_)
                have vi_13 : i_13.toInt = b.toInt + 1 := by have h9 := x_add ei_13 (by omega) (by omega); omega
                refine lv_goto (tgt := 63) hx hb dX1_fits_59 (by decide) ?_
                refine lv_iload_n hx hb dX1_fits_63 rfl (lv_at hl 1 rfl) ?_
                refine x_calliW (va_runV (As := [.int i_7, .int i_13, .int mo]) (rest := []) ⟨hx, hb, hml, hown, hts⟩ (g_fits2 l D y H.size ad (tI (tI σ 181 fg) 181 f_6) i_7 i_13 mo (by first | omega | decide) (by first | omega | decide) (by first | omega | decide) (by first | omega | decide) (by first | omega | decide) (show 0 ≤ ((σ.1 183)).toInt from by first | omega | decide) (show ((σ.1 183)).toInt ≤ 8 from by first | omega | decide)) (cwV 3 hts g_g_fits3_1 rfl rfl rfl (by decide +kernel) ⟨Nat.le_of_ble_eq_true rfl, Nat.le_of_ble_eq_true rfl⟩) (x_preV (q := (RX1, TX1, 3)) hK hP hD (ci := 0) (q0 := 0) rfl grw_o0) rfl rfl hl.1 rfl (lv_room (Nat.le_of_ble_eq_true rfl)) dX1_fits_64 ⟨Nat.le_of_ble_eq_true rfl, Nat.le_of_ble_eq_true rfl⟩) hP hD hS hA (fun r_14 u H locs hw hP hD hS => ?_)
                obtain ⟨f_15, rfl⟩ : ∃ z9, z9 = u := ⟨_, rfl⟩
                try dsimp only at hw
                have hP : va_P D vwCl (grw y ad (tI (tI (tI σ 181 fg) 181 f_6) 181 f_15)) H := hP
                have hD : va_D A (grw y ad (tI (tI (tI σ 181 fg) 181 f_6) 181 f_15)) := hD
                refine lv_if_eq (tgt := 72) hx hb dX1_fits_67 (by decide) (fun c_16 => ?_) (fun c_16 => ?_)
                · have kc_16 : r_14.toInt = 0 := by have h9 := c_16; simp only [ge_iff_le, gt_iff_lt, x_lt, x_le, x_eq, ne_eq, Int32.not_lt, Int32.not_le] at h9; simp only [Int32.reduceToInt] at h9; omega
                  obtain ⟨i_17, ei_17⟩ : ∃ z9 : Int32, z9 = i + 1 := ⟨_, rfl⟩
                  have vi_17 : i_17.toInt = i.toInt + 1 := by have h9 := x_add ei_17 (by omega) (by omega); omega
                  refine lv_iinc (v := i_17) (lv' := [(4, .int i_17), (3, .int mo), (2, .int b), (1, .int a), (0, .ref (ad 180))]) hx hb dX1_fits_72 hl (k := 0) rfl (by rw [ei_17]; rfl) (by decide) rfl (fun ls hl => ?_)
                  refine lv_goto (tgt := 13) hx hb dX1_fits_75 (by decide) ?_
                  have hP : va_P D vwCl (grw y ad (tI σ 181 f_15)) H := hP
                  have hD : va_D A (grw y ad (tI σ 181 f_15)) := hD
                  exact ih_loop i_17 f_15 H locs ls (by omega) (by omega) (by omega) hP hD hS (lv_sub hl [0, 1, 2, 3, 4] rfl)
                · have kc_16 : r_14.toInt ≠ 0 := by have h9 := c_16; simp only [ge_iff_le, gt_iff_lt, x_lt, x_le, x_eq, ne_eq, Int32.not_lt, Int32.not_le] at h9; simp only [Int32.reduceToInt] at h9; omega
                  refine lv_iconst (v := 1) hx hb dX1_fits_70 (by decide) ?_
                  have hP : va_P D vwCl (grw y ad (tI σ 181 f_15)) H := hP
                  have hD : va_D A (grw y ad (tI σ 181 f_15)) := hD
                  exact x_zretW (v := 1) (u := f_15) hx hb hr hQ rfl (by decide) hP hD hK hS dX1_fits_71 hlocks
            · have kc_5 : r_4.toInt = 0 := by have h9 := c_5; simp only [ge_iff_le, gt_iff_lt, x_lt, x_le, x_eq, ne_eq, Int32.not_lt, Int32.not_le] at h9; simp only [Int32.reduceToInt] at h9; omega
              refine lv_goto (tgt := 72) hx hb dX1_fits_35 (by decide) ?_
              obtain ⟨i_18, ei_18⟩ : ∃ z9 : Int32, z9 = i + 1 := ⟨_, rfl⟩
              have vi_18 : i_18.toInt = i.toInt + 1 := by have h9 := x_add ei_18 (by omega) (by omega); omega
              refine lv_iinc (v := i_18) (lv' := [(4, .int i_18), (3, .int mo), (2, .int b), (1, .int a), (0, .ref (ad 180))]) hx hb dX1_fits_72 hl (k := 0) rfl (by rw [ei_18]; rfl) (by decide) rfl (fun ls hl => ?_)
              refine lv_goto (tgt := 13) hx hb dX1_fits_75 (by decide) ?_
              exact ih_loop i_18 fg H locs ls (by omega) (by omega) (by omega) hP hD hS (lv_sub hl [0, 1, 2, 3, 4] rfl)
    exact loop 10 0 (σ.2.2.1 181) H locs ls (by decide) (by omega) (by omega) hP hD hS (lv_sub hl [0, 4, 3, 2, 1] rfl)
  · have kc_1 : a.toInt ≥ (σ.1 183).toInt := by have h9 := c_1; simp only [ge_iff_le, gt_iff_lt, x_lt, x_le, x_eq, ne_eq, Int32.not_lt, Int32.not_le] at h9; omega
    refine lv_iconst (v := 1) hx hb dX1_fits_8 (by decide) ?_
    have hP : va_P D vwCl (grw y ad (tI σ 181 (σ.2.2.1 181))) H := hP
    have hD : va_D A (grw y ad (tI σ 181 (σ.2.2.1 181))) := hD
    exact x_zretW (v := 1) (u := (σ.2.2.1 181)) hx hb hr hQ rfl (by decide) hP hD hK hS dX1_fits_9 hlocks

def v_g_fits4 : List Cond := .code yX1_fits cX1_fits 5 (some .boolean) :: ([.fieldLink RX1 20 "SlopeRunner$Grouping" "inputs" "I", .fieldLink RX1 11 "SlopeRunner$Grouping" "group" "[I"] ++ ((wsV RX1 28 RX1 yX1_isFree v_g_isFree) ++ ((wsV RX1 24 RX1 yX1_fits v_g_fits3) ++ wsX10)))
theorem g_g_fits4_0 : GoodIn v_g_fits4 (wsV RX1 28 RX1 yX1_isFree v_g_isFree) := goodIn_sub (fun w h => List.mem_cons_of_mem _ (List.mem_append_right _ (List.mem_append_left _ h))) (by decide +kernel)
theorem g_g_fits4_1 : GoodIn v_g_fits4 (wsV RX1 24 RX1 yX1_fits v_g_fits3) := goodIn_sub (fun w h => List.mem_cons_of_mem _ (List.mem_append_right _ (List.mem_append_right _ (List.mem_append_left _ h)))) (by decide +kernel)
set_option maxHeartbeats 4000000 in
set_option maxRecDepth 100000 in
theorem g_fits4 (l : Launch) (D : va_G) (y : Nat → ClassId) (sz : Nat) (ad : Nat → Nat) (σ : OS) (a b mo : Int32) (ha0 : 0 ≤ a.toInt) (ha1 : a.toInt ≤ 8) (hb0 : 0 ≤ b.toInt) (hb1 : b.toInt ≤ a.toInt) (hd : 8 - a.toInt ≤ 4) (hin0 : 0 ≤ (σ.1 183).toInt) (hin1 : (σ.1 183).toInt ≤ 8) : Met l yX1_fits v_g_fits4 ({ frames := 4, cells := 0, slots := 0, locals := 96 } : Room) (va_Pc [.ref (ad 180), .int a, .int b, .int mo] (xPre D (xT y) (grw y ad σ) sz)) (va_Qi (fun (r : Int32) (u : (Nat → Int32)) => r.toInt = 0 ∨ r.toInt = 1) (fun (u : (Nat → Int32)) => xB D (xT y) (va_A (grw y ad σ) sz) (grw y ad (tI σ 181 u))) (va_A (grw y ad σ) sz)) 0 0 (va_A (grw y ad σ) sz) := by
  refine x_meti (cc := cX1_fits) (maxL := 5) (by decide) rfl (Nat.le_of_ble_eq_true rfl) ?_
  intro p e s m below meth c A H locs Q hx hb hml hown hts hr hlocks hmn hA hP hK hD hS ls hl hQ
  have hl : lv_has ls 5 [(0, .ref (ad 180)), (1, .int a), (2, .int b), (3, .int mo)] := hl
  have fl20 := hts (.fieldLink RX1 20 "SlopeRunner$Grouping" "inputs" "I") (List.mem_of_getElem? (i := 1) rfl)
  have inX1 : ∀ w ∈ wsX10, w ∈ v_g_fits4 := (fun w h => List.mem_cons_of_mem _ (List.mem_append_right _ (List.mem_append_right _ (List.mem_append_right _ h))))
  have kk_0 : (0 : Int32).toInt = 0 := rfl
  have fl11 := hts (.fieldLink RX1 11 "SlopeRunner$Grouping" "group" "[I") (List.mem_of_getElem? (i := 2) rfl)
  have kk_1 : (1 : Int32).toInt = 1 := rfl
  refine lv_iload_n hx hb dX1_fits_0 rfl (lv_at hl 1 rfl) ?_
  refine lv_aload_n hx hb dX1_fits_1 rfl (lv_at hl 0 rfl) ?_
  refine va_get (D := D) (ci := 0) (v := .int (σ.1 183)) (C := RX1) (T := TX1) (N := 3) hx hb hts inX1 hown hK hP 0 grw_o0 rfl 2 (by decide) fl20 (fun _ h9 => h9) rfl dX1_fits_2 ?_
  refine lv_icmp_lt (tgt := 10) hx hb dX1_fits_5 (by decide) (fun c_1 => ?_) (fun c_1 => ?_)
  · have kc_1 : a.toInt < (σ.1 183).toInt := by have h9 := c_1; simp only [ge_iff_le, gt_iff_lt, x_lt, x_le, x_eq, ne_eq, Int32.not_lt, Int32.not_le] at h9; omega
    refine lv_iconst (v := 0) hx hb dX1_fits_10 (by decide) ?_
    refine lv_istore (lv' := [(4, .int 0), (0, .ref (ad 180)), (1, .int a), (2, .int b), (3, .int mo)]) hx hb dX1_fits_11 hl (by decide) rfl (fun ls hl => ?_)
    have l00 : (0 : Int32).toInt = 0 := rfl
    have hP : va_P D vwCl (grw y ad (tI σ 181 (σ.2.2.1 181))) H := hP
    have hD : va_D A (grw y ad (tI σ 181 (σ.2.2.1 181))) := hD
    have loop : ∀ (fu : Nat) (i : Int32) (fg : Nat → Int32) (H : Heap) (locs : List Loc) (ls : Array Slot), (0 ≤ i.toInt) → (i.toInt ≤ b.toInt + 1) → (b.toInt + 1 - i.toInt < (fu : Int)) → va_P D vwCl (grw y ad (tI σ 181 fg)) H → va_D A (grw y ad (tI σ 181 fg)) → va_S A s.heap H locs → lv_has ls 5 [(4, .int i), (3, .int mo), (2, .int b), (1, .int a), (0, .ref (ad 180))] → W p l e ({ frames := 4, cells := 0, slots := 0, locals := 96 } : Room) s m ([.ref (ad 180), .int a, .int b, .int mo] : List Value).toArray below meth c H locs 0 0 Q (F0 m 13 ls []) := by
      intro fu
      induction fu with
      | zero =>
        intro i fg H locs ls hi0 hi1 hm
        exact absurd hm (by omega)
      | succ fu ih_loop =>
        intro i fg H locs ls hi0 hi1 hm hP hD hS hl
        refine lv_iload hx hb dX1_fits_13 (lv_at hl 0 rfl) ?_
        refine lv_iload_n hx hb dX1_fits_15 rfl (lv_at hl 2 rfl) ?_
        refine lv_icmp_gt (tgt := 78) hx hb dX1_fits_16 (by decide) (fun c_2 => ?_) (fun c_2 => ?_)
        · have kc_2 : i.toInt > b.toInt := by have h9 := c_2; simp only [ge_iff_le, gt_iff_lt, x_lt, x_le, x_eq, ne_eq, Int32.not_lt, Int32.not_le] at h9; omega
          refine lv_iconst (v := 0) hx hb dX1_fits_78 (by decide) ?_
          exact x_zretW (v := 0) (u := fg) hx hb hr hQ rfl (by decide) hP hD hK hS dX1_fits_79 hlocks
        · have kc_2 : i.toInt ≤ b.toInt := by have h9 := c_2; simp only [ge_iff_le, gt_iff_lt, x_lt, x_le, x_eq, ne_eq, Int32.not_lt, Int32.not_le] at h9; omega
          refine lv_iload hx hb dX1_fits_19 (lv_at hl 0 rfl) ?_
          refine lv_iload_n hx hb dX1_fits_21 rfl (lv_at hl 1 rfl) ?_
          refine lv_icmp_ge (tgt := 78) hx hb dX1_fits_22 (by decide) (fun c_3 => ?_) (fun c_3 => ?_)
          · have kc_3 : i.toInt ≥ mo.toInt := by have h9 := c_3; simp only [ge_iff_le, gt_iff_lt, x_lt, x_le, x_eq, ne_eq, Int32.not_lt, Int32.not_le] at h9; omega
            refine lv_iconst (v := 0) hx hb dX1_fits_78 (by decide) ?_
            exact x_zretW (v := 0) (u := fg) hx hb hr hQ rfl (by decide) hP hD hK hS dX1_fits_79 hlocks
          · have kc_3 : i.toInt < mo.toInt := by have h9 := c_3; simp only [ge_iff_le, gt_iff_lt, x_lt, x_le, x_eq, ne_eq, Int32.not_lt, Int32.not_le] at h9; omega
            refine lv_aload_n hx hb dX1_fits_25 rfl (lv_at hl 4 rfl) ?_
            refine lv_iload_n hx hb dX1_fits_26 rfl (lv_at hl 3 rfl) ?_
            refine lv_iload hx hb dX1_fits_27 (lv_at hl 0 rfl) ?_
            refine x_calliW (va_runV (As := [.int a, .int i]) (rest := []) ⟨hx, hb, hml, hown, hts⟩ (g_isFree l D y H.size ad (tI σ 181 fg) a i (by first | omega | decide) (by first | omega | decide)) (cwV 2 hts g_g_fits4_0 rfl rfl rfl (by decide +kernel) ⟨Nat.le_of_ble_eq_true rfl, Nat.le_of_ble_eq_true rfl⟩) (x_preV (q := (RX1, TX1, 3)) hK hP hD (ci := 0) (q0 := 0) rfl grw_o0) rfl rfl hl.1 rfl (lv_room (Nat.le_of_ble_eq_true rfl)) dX1_fits_29 ⟨Nat.le_of_ble_eq_true rfl, Nat.le_of_ble_eq_true rfl⟩) hP hD hS hA (fun r_4 u H locs hw hP hD hS => ?_)
            try dsimp only at hw
            have hP : va_P D vwCl (grw y ad (tI σ 181 fg)) H := hP
            have hD : va_D A (grw y ad (tI σ 181 fg)) := hD
            refine lv_if_ne (tgt := 38) hx hb dX1_fits_32 (by decide) (fun c_5 => ?_) (fun c_5 => ?_)
            · have kc_5 : r_4.toInt ≠ 0 := by have h9 := c_5; simp only [ge_iff_le, gt_iff_lt, x_lt, x_le, x_eq, ne_eq, Int32.not_lt, Int32.not_le] at h9; simp only [Int32.reduceToInt] at h9; omega
              refine lv_aload_n hx hb dX1_fits_38 rfl (lv_at hl 4 rfl) ?_
              refine va_get (D := D) (ci := 0) (v := .ref (ad 181)) (C := RX1) (T := TX1) (N := 3) hx hb hts inX1 hown hK hP 0 grw_o0 rfl 0 (by decide) fl11 (fun _ h9 => h9) rfl dX1_fits_39 ?_
              refine lv_iload_n hx hb dX1_fits_42 rfl (lv_at hl 3 rfl) ?_
              refine lv_iload hx hb dX1_fits_43 (lv_at hl 0 rfl) ?_
              refine va_iast hx hb hK hP hD hS 1 2 grw_a1 rfl (x_in (by omega) (by omega)) dX1_fits_45 (fun H locs hP hD hS => ?_)
              obtain ⟨f_6, ef_6⟩ : ∃ z9 : Nat → Int32, z9 = (upd fg (Int32.toNatClampNeg a) i) := ⟨_, rfl⟩
              have hP : va_P D vwCl (grw y ad (tI (tI σ 181 fg) 181 f_6)) H := by rw [ef_6]; exact x_trP hP grw_s1
              have hD : va_D A (grw y ad (tI (tI σ 181 fg) 181 f_6)) := by rw [ef_6]; exact x_trD hD grw_s1
              refine lv_aload_n hx hb dX1_fits_46 rfl (lv_at hl 4 rfl) ?_
              refine lv_iload_n hx hb dX1_fits_47 rfl (lv_at hl 3 rfl) ?_
              refine lv_iconst (v := 1) hx hb dX1_fits_48 (by decide) ?_
              refine lv_iadd hx hb dX1_fits_49 ?_
              refine lv_topi (fun i_7 ei_7 => ?_)
              have vi_7 : i_7.toInt = a.toInt + 1 := by have h9 := x_add ei_7 (by omega) (by omega); omega
              refine lv_iload hx hb dX1_fits_50 (lv_at hl 0 rfl) ?_
              refine lv_iload_n hx hb dX1_fits_52 rfl (lv_at hl 2 rfl) ?_
              refine lv_icmp_ne (tgt := 62) hx hb dX1_fits_53 (by decide) (fun c_8 => ?_) (fun c_8 => ?_)
              · have kc_8 : i.toInt ≠ b.toInt := by have h9 := c_8; simp only [ge_iff_le, gt_iff_lt, x_lt, x_le, x_eq, ne_eq, Int32.not_lt, Int32.not_le] at h9; omega
                refine lv_iload_n hx hb dX1_fits_62 rfl (lv_at hl 2 rfl) ?_
                refine lv_iload_n hx hb dX1_fits_63 rfl (lv_at hl 1 rfl) ?_
                refine x_calliW (va_runV (As := [.int i_7, .int b, .int mo]) (rest := []) ⟨hx, hb, hml, hown, hts⟩ (g_fits3 l D y H.size ad (tI (tI σ 181 fg) 181 f_6) i_7 b mo (by first | omega | decide) (by first | omega | decide) (by first | omega | decide) (by first | omega | decide) (by first | omega | decide) (show 0 ≤ ((σ.1 183)).toInt from by first | omega | decide) (show ((σ.1 183)).toInt ≤ 8 from by first | omega | decide)) (cwV 3 hts g_g_fits4_1 rfl rfl rfl (by decide +kernel) ⟨Nat.le_of_ble_eq_true rfl, Nat.le_of_ble_eq_true rfl⟩) (x_preV (q := (RX1, TX1, 3)) hK hP hD (ci := 0) (q0 := 0) rfl grw_o0) rfl rfl hl.1 rfl (lv_room (Nat.le_of_ble_eq_true rfl)) dX1_fits_64 ⟨Nat.le_of_ble_eq_true rfl, Nat.le_of_ble_eq_true rfl⟩) hP hD hS hA (fun r_9 u H locs hw hP hD hS => ?_)
                obtain ⟨f_10, rfl⟩ : ∃ z9, z9 = u := ⟨_, rfl⟩
                try dsimp only at hw
                have hP : va_P D vwCl (grw y ad (tI (tI (tI σ 181 fg) 181 f_6) 181 f_10)) H := hP
                have hD : va_D A (grw y ad (tI (tI (tI σ 181 fg) 181 f_6) 181 f_10)) := hD
                refine lv_if_eq (tgt := 72) hx hb dX1_fits_67 (by decide) (fun c_11 => ?_) (fun c_11 => ?_)
                · have kc_11 : r_9.toInt = 0 := by have h9 := c_11; simp only [ge_iff_le, gt_iff_lt, x_lt, x_le, x_eq, ne_eq, Int32.not_lt, Int32.not_le] at h9; simp only [Int32.reduceToInt] at h9; omega
                  obtain ⟨i_12, ei_12⟩ : ∃ z9 : Int32, z9 = i + 1 := ⟨_, rfl⟩
                  have vi_12 : i_12.toInt = i.toInt + 1 := by have h9 := x_add ei_12 (by omega) (by omega); omega
                  refine lv_iinc (v := i_12) (lv' := [(4, .int i_12), (3, .int mo), (2, .int b), (1, .int a), (0, .ref (ad 180))]) hx hb dX1_fits_72 hl (k := 0) rfl (by rw [ei_12]; rfl) (by decide) rfl (fun ls hl => ?_)
                  refine lv_goto (tgt := 13) hx hb dX1_fits_75 (by decide) ?_
                  have hP : va_P D vwCl (grw y ad (tI σ 181 f_10)) H := hP
                  have hD : va_D A (grw y ad (tI σ 181 f_10)) := hD
                  exact ih_loop i_12 f_10 H locs ls (by omega) (by omega) (by omega) hP hD hS (lv_sub hl [0, 1, 2, 3, 4] rfl)
                · have kc_11 : r_9.toInt ≠ 0 := by have h9 := c_11; simp only [ge_iff_le, gt_iff_lt, x_lt, x_le, x_eq, ne_eq, Int32.not_lt, Int32.not_le] at h9; simp only [Int32.reduceToInt] at h9; omega
                  refine lv_iconst (v := 1) hx hb dX1_fits_70 (by decide) ?_
                  have hP : va_P D vwCl (grw y ad (tI σ 181 f_10)) H := hP
                  have hD : va_D A (grw y ad (tI σ 181 f_10)) := hD
                  exact x_zretW (v := 1) (u := f_10) hx hb hr hQ rfl (by decide) hP hD hK hS dX1_fits_71 hlocks
              · have kc_8 : i.toInt = b.toInt := by have h9 := c_8; simp only [ge_iff_le, gt_iff_lt, x_lt, x_le, x_eq, ne_eq, Int32.not_lt, Int32.not_le] at h9; omega
                refine lv_iload_n hx hb dX1_fits_56 rfl (lv_at hl 2 rfl) ?_
                refine lv_iconst (v := 1) hx hb dX1_fits_57 (by decide) ?_
                refine lv_iadd hx hb dX1_fits_58 ?_
                refine lv_topi (fun i_13 ei_13 => ?_)
                have vi_13 : i_13.toInt = b.toInt + 1 := by have h9 := x_add ei_13 (by omega) (by omega); omega
                refine lv_goto (tgt := 63) hx hb dX1_fits_59 (by decide) ?_
                refine lv_iload_n hx hb dX1_fits_63 rfl (lv_at hl 1 rfl) ?_
                refine x_calliW (va_runV (As := [.int i_7, .int i_13, .int mo]) (rest := []) ⟨hx, hb, hml, hown, hts⟩ (g_fits3 l D y H.size ad (tI (tI σ 181 fg) 181 f_6) i_7 i_13 mo (by first | omega | decide) (by first | omega | decide) (by first | omega | decide) (by first | omega | decide) (by first | omega | decide) (show 0 ≤ ((σ.1 183)).toInt from by first | omega | decide) (show ((σ.1 183)).toInt ≤ 8 from by first | omega | decide)) (cwV 3 hts g_g_fits4_1 rfl rfl rfl (by decide +kernel) ⟨Nat.le_of_ble_eq_true rfl, Nat.le_of_ble_eq_true rfl⟩) (x_preV (q := (RX1, TX1, 3)) hK hP hD (ci := 0) (q0 := 0) rfl grw_o0) rfl rfl hl.1 rfl (lv_room (Nat.le_of_ble_eq_true rfl)) dX1_fits_64 ⟨Nat.le_of_ble_eq_true rfl, Nat.le_of_ble_eq_true rfl⟩) hP hD hS hA (fun r_14 u H locs hw hP hD hS => ?_)
                obtain ⟨f_15, rfl⟩ : ∃ z9, z9 = u := ⟨_, rfl⟩
                try dsimp only at hw
                have hP : va_P D vwCl (grw y ad (tI (tI (tI σ 181 fg) 181 f_6) 181 f_15)) H := hP
                have hD : va_D A (grw y ad (tI (tI (tI σ 181 fg) 181 f_6) 181 f_15)) := hD
                refine lv_if_eq (tgt := 72) hx hb dX1_fits_67 (by decide) (fun c_16 => ?_) (fun c_16 => ?_)
                · have kc_16 : r_14.toInt = 0 := by have h9 := c_16; simp only [ge_iff_le, gt_iff_lt, x_lt, x_le, x_eq, ne_eq, Int32.not_lt, Int32.not_le] at h9; simp only [Int32.reduceToInt] at h9; omega
                  obtain ⟨i_17, ei_17⟩ : ∃ z9 : Int32, z9 = i + 1 := ⟨_, rfl⟩
                  have vi_17 : i_17.toInt = i.toInt + 1 := by have h9 := x_add ei_17 (by omega) (by omega); omega
                  refine lv_iinc (v := i_17) (lv' := [(4, .int i_17), (3, .int mo), (2, .int b), (1, .int a), (0, .ref (ad 180))]) hx hb dX1_fits_72 hl (k := 0) rfl (by rw [ei_17]; rfl) (by decide) rfl (fun ls hl => ?_)
                  refine lv_goto (tgt := 13) hx hb dX1_fits_75 (by decide) ?_
                  have hP : va_P D vwCl (grw y ad (tI σ 181 f_15)) H := hP
                  have hD : va_D A (grw y ad (tI σ 181 f_15)) := hD
                  exact ih_loop i_17 f_15 H locs ls (by omega) (by omega) (by omega) hP hD hS (lv_sub hl [0, 1, 2, 3, 4] rfl)
                · have kc_16 : r_14.toInt ≠ 0 := by have h9 := c_16; simp only [ge_iff_le, gt_iff_lt, x_lt, x_le, x_eq, ne_eq, Int32.not_lt, Int32.not_le] at h9; simp only [Int32.reduceToInt] at h9; omega
                  refine lv_iconst (v := 1) hx hb dX1_fits_70 (by decide) ?_
                  have hP : va_P D vwCl (grw y ad (tI σ 181 f_15)) H := hP
                  have hD : va_D A (grw y ad (tI σ 181 f_15)) := hD
                  exact x_zretW (v := 1) (u := f_15) hx hb hr hQ rfl (by decide) hP hD hK hS dX1_fits_71 hlocks
            · have kc_5 : r_4.toInt = 0 := by have h9 := c_5; simp only [ge_iff_le, gt_iff_lt, x_lt, x_le, x_eq, ne_eq, Int32.not_lt, Int32.not_le] at h9; simp only [Int32.reduceToInt] at h9; omega
              refine lv_goto (tgt := 72) hx hb dX1_fits_35 (by decide) ?_
              obtain ⟨i_18, ei_18⟩ : ∃ z9 : Int32, z9 = i + 1 := ⟨_, rfl⟩
              have vi_18 : i_18.toInt = i.toInt + 1 := by have h9 := x_add ei_18 (by omega) (by omega); omega
              refine lv_iinc (v := i_18) (lv' := [(4, .int i_18), (3, .int mo), (2, .int b), (1, .int a), (0, .ref (ad 180))]) hx hb dX1_fits_72 hl (k := 0) rfl (by rw [ei_18]; rfl) (by decide) rfl (fun ls hl => ?_)
              refine lv_goto (tgt := 13) hx hb dX1_fits_75 (by decide) ?_
              exact ih_loop i_18 fg H locs ls (by omega) (by omega) (by omega) hP hD hS (lv_sub hl [0, 1, 2, 3, 4] rfl)
    exact loop 10 0 (σ.2.2.1 181) H locs ls (by decide) (by omega) (by omega) hP hD hS (lv_sub hl [0, 4, 3, 2, 1] rfl)
  · have kc_1 : a.toInt ≥ (σ.1 183).toInt := by have h9 := c_1; simp only [ge_iff_le, gt_iff_lt, x_lt, x_le, x_eq, ne_eq, Int32.not_lt, Int32.not_le] at h9; omega
    refine lv_iconst (v := 1) hx hb dX1_fits_8 (by decide) ?_
    have hP : va_P D vwCl (grw y ad (tI σ 181 (σ.2.2.1 181))) H := hP
    have hD : va_D A (grw y ad (tI σ 181 (σ.2.2.1 181))) := hD
    exact x_zretW (v := 1) (u := (σ.2.2.1 181)) hx hb hr hQ rfl (by decide) hP hD hK hS dX1_fits_9 hlocks

def v_g_fits5 : List Cond := .code yX1_fits cX1_fits 5 (some .boolean) :: ([.fieldLink RX1 20 "SlopeRunner$Grouping" "inputs" "I", .fieldLink RX1 11 "SlopeRunner$Grouping" "group" "[I"] ++ ((wsV RX1 28 RX1 yX1_isFree v_g_isFree) ++ ((wsV RX1 24 RX1 yX1_fits v_g_fits4) ++ wsX10)))
theorem g_g_fits5_0 : GoodIn v_g_fits5 (wsV RX1 28 RX1 yX1_isFree v_g_isFree) := goodIn_sub (fun w h => List.mem_cons_of_mem _ (List.mem_append_right _ (List.mem_append_left _ h))) (by decide +kernel)
theorem g_g_fits5_1 : GoodIn v_g_fits5 (wsV RX1 24 RX1 yX1_fits v_g_fits4) := goodIn_sub (fun w h => List.mem_cons_of_mem _ (List.mem_append_right _ (List.mem_append_right _ (List.mem_append_left _ h)))) (by decide +kernel)
set_option maxHeartbeats 4000000 in
set_option maxRecDepth 100000 in
theorem g_fits5 (l : Launch) (D : va_G) (y : Nat → ClassId) (sz : Nat) (ad : Nat → Nat) (σ : OS) (a b mo : Int32) (ha0 : 0 ≤ a.toInt) (ha1 : a.toInt ≤ 8) (hb0 : 0 ≤ b.toInt) (hb1 : b.toInt ≤ a.toInt) (hd : 8 - a.toInt ≤ 5) (hin0 : 0 ≤ (σ.1 183).toInt) (hin1 : (σ.1 183).toInt ≤ 8) : Met l yX1_fits v_g_fits5 ({ frames := 5, cells := 0, slots := 0, locals := 120 } : Room) (va_Pc [.ref (ad 180), .int a, .int b, .int mo] (xPre D (xT y) (grw y ad σ) sz)) (va_Qi (fun (r : Int32) (u : (Nat → Int32)) => r.toInt = 0 ∨ r.toInt = 1) (fun (u : (Nat → Int32)) => xB D (xT y) (va_A (grw y ad σ) sz) (grw y ad (tI σ 181 u))) (va_A (grw y ad σ) sz)) 0 0 (va_A (grw y ad σ) sz) := by
  refine x_meti (cc := cX1_fits) (maxL := 5) (by decide) rfl (Nat.le_of_ble_eq_true rfl) ?_
  intro p e s m below meth c A H locs Q hx hb hml hown hts hr hlocks hmn hA hP hK hD hS ls hl hQ
  have hl : lv_has ls 5 [(0, .ref (ad 180)), (1, .int a), (2, .int b), (3, .int mo)] := hl
  have fl20 := hts (.fieldLink RX1 20 "SlopeRunner$Grouping" "inputs" "I") (List.mem_of_getElem? (i := 1) rfl)
  have inX1 : ∀ w ∈ wsX10, w ∈ v_g_fits5 := (fun w h => List.mem_cons_of_mem _ (List.mem_append_right _ (List.mem_append_right _ (List.mem_append_right _ h))))
  have kk_0 : (0 : Int32).toInt = 0 := rfl
  have fl11 := hts (.fieldLink RX1 11 "SlopeRunner$Grouping" "group" "[I") (List.mem_of_getElem? (i := 2) rfl)
  have kk_1 : (1 : Int32).toInt = 1 := rfl
  refine lv_iload_n hx hb dX1_fits_0 rfl (lv_at hl 1 rfl) ?_
  refine lv_aload_n hx hb dX1_fits_1 rfl (lv_at hl 0 rfl) ?_
  refine va_get (D := D) (ci := 0) (v := .int (σ.1 183)) (C := RX1) (T := TX1) (N := 3) hx hb hts inX1 hown hK hP 0 grw_o0 rfl 2 (by decide) fl20 (fun _ h9 => h9) rfl dX1_fits_2 ?_
  refine lv_icmp_lt (tgt := 10) hx hb dX1_fits_5 (by decide) (fun c_1 => ?_) (fun c_1 => ?_)
  · have kc_1 : a.toInt < (σ.1 183).toInt := by have h9 := c_1; simp only [ge_iff_le, gt_iff_lt, x_lt, x_le, x_eq, ne_eq, Int32.not_lt, Int32.not_le] at h9; omega
    refine lv_iconst (v := 0) hx hb dX1_fits_10 (by decide) ?_
    refine lv_istore (lv' := [(4, .int 0), (0, .ref (ad 180)), (1, .int a), (2, .int b), (3, .int mo)]) hx hb dX1_fits_11 hl (by decide) rfl (fun ls hl => ?_)
    have l00 : (0 : Int32).toInt = 0 := rfl
    have hP : va_P D vwCl (grw y ad (tI σ 181 (σ.2.2.1 181))) H := hP
    have hD : va_D A (grw y ad (tI σ 181 (σ.2.2.1 181))) := hD
    have loop : ∀ (fu : Nat) (i : Int32) (fg : Nat → Int32) (H : Heap) (locs : List Loc) (ls : Array Slot), (0 ≤ i.toInt) → (i.toInt ≤ b.toInt + 1) → (b.toInt + 1 - i.toInt < (fu : Int)) → va_P D vwCl (grw y ad (tI σ 181 fg)) H → va_D A (grw y ad (tI σ 181 fg)) → va_S A s.heap H locs → lv_has ls 5 [(4, .int i), (3, .int mo), (2, .int b), (1, .int a), (0, .ref (ad 180))] → W p l e ({ frames := 5, cells := 0, slots := 0, locals := 120 } : Room) s m ([.ref (ad 180), .int a, .int b, .int mo] : List Value).toArray below meth c H locs 0 0 Q (F0 m 13 ls []) := by
      intro fu
      induction fu with
      | zero =>
        intro i fg H locs ls hi0 hi1 hm
        exact absurd hm (by omega)
      | succ fu ih_loop =>
        intro i fg H locs ls hi0 hi1 hm hP hD hS hl
        refine lv_iload hx hb dX1_fits_13 (lv_at hl 0 rfl) ?_
        refine lv_iload_n hx hb dX1_fits_15 rfl (lv_at hl 2 rfl) ?_
        refine lv_icmp_gt (tgt := 78) hx hb dX1_fits_16 (by decide) (fun c_2 => ?_) (fun c_2 => ?_)
        · have kc_2 : i.toInt > b.toInt := by have h9 := c_2; simp only [ge_iff_le, gt_iff_lt, x_lt, x_le, x_eq, ne_eq, Int32.not_lt, Int32.not_le] at h9; omega
          refine lv_iconst (v := 0) hx hb dX1_fits_78 (by decide) ?_
          exact x_zretW (v := 0) (u := fg) hx hb hr hQ rfl (by decide) hP hD hK hS dX1_fits_79 hlocks
        · have kc_2 : i.toInt ≤ b.toInt := by have h9 := c_2; simp only [ge_iff_le, gt_iff_lt, x_lt, x_le, x_eq, ne_eq, Int32.not_lt, Int32.not_le] at h9; omega
          refine lv_iload hx hb dX1_fits_19 (lv_at hl 0 rfl) ?_
          refine lv_iload_n hx hb dX1_fits_21 rfl (lv_at hl 1 rfl) ?_
          refine lv_icmp_ge (tgt := 78) hx hb dX1_fits_22 (by decide) (fun c_3 => ?_) (fun c_3 => ?_)
          · have kc_3 : i.toInt ≥ mo.toInt := by have h9 := c_3; simp only [ge_iff_le, gt_iff_lt, x_lt, x_le, x_eq, ne_eq, Int32.not_lt, Int32.not_le] at h9; omega
            refine lv_iconst (v := 0) hx hb dX1_fits_78 (by decide) ?_
            exact x_zretW (v := 0) (u := fg) hx hb hr hQ rfl (by decide) hP hD hK hS dX1_fits_79 hlocks
          · have kc_3 : i.toInt < mo.toInt := by have h9 := c_3; simp only [ge_iff_le, gt_iff_lt, x_lt, x_le, x_eq, ne_eq, Int32.not_lt, Int32.not_le] at h9; omega
            refine lv_aload_n hx hb dX1_fits_25 rfl (lv_at hl 4 rfl) ?_
            refine lv_iload_n hx hb dX1_fits_26 rfl (lv_at hl 3 rfl) ?_
            refine lv_iload hx hb dX1_fits_27 (lv_at hl 0 rfl) ?_
            refine x_calliW (va_runV (As := [.int a, .int i]) (rest := []) ⟨hx, hb, hml, hown, hts⟩ (g_isFree l D y H.size ad (tI σ 181 fg) a i (by first | omega | decide) (by first | omega | decide)) (cwV 2 hts g_g_fits5_0 rfl rfl rfl (by decide +kernel) ⟨Nat.le_of_ble_eq_true rfl, Nat.le_of_ble_eq_true rfl⟩) (x_preV (q := (RX1, TX1, 3)) hK hP hD (ci := 0) (q0 := 0) rfl grw_o0) rfl rfl hl.1 rfl (lv_room (Nat.le_of_ble_eq_true rfl)) dX1_fits_29 ⟨Nat.le_of_ble_eq_true rfl, Nat.le_of_ble_eq_true rfl⟩) hP hD hS hA (fun r_4 u H locs hw hP hD hS => ?_)
            try dsimp only at hw
            have hP : va_P D vwCl (grw y ad (tI σ 181 fg)) H := hP
            have hD : va_D A (grw y ad (tI σ 181 fg)) := hD
            refine lv_if_ne (tgt := 38) hx hb dX1_fits_32 (by decide) (fun c_5 => ?_) (fun c_5 => ?_)
            · have kc_5 : r_4.toInt ≠ 0 := by have h9 := c_5; simp only [ge_iff_le, gt_iff_lt, x_lt, x_le, x_eq, ne_eq, Int32.not_lt, Int32.not_le] at h9; simp only [Int32.reduceToInt] at h9; omega
              refine lv_aload_n hx hb dX1_fits_38 rfl (lv_at hl 4 rfl) ?_
              refine va_get (D := D) (ci := 0) (v := .ref (ad 181)) (C := RX1) (T := TX1) (N := 3) hx hb hts inX1 hown hK hP 0 grw_o0 rfl 0 (by decide) fl11 (fun _ h9 => h9) rfl dX1_fits_39 ?_
              refine lv_iload_n hx hb dX1_fits_42 rfl (lv_at hl 3 rfl) ?_
              refine lv_iload hx hb dX1_fits_43 (lv_at hl 0 rfl) ?_
              refine va_iast hx hb hK hP hD hS 1 2 grw_a1 rfl (x_in (by omega) (by omega)) dX1_fits_45 (fun H locs hP hD hS => ?_)
              obtain ⟨f_6, ef_6⟩ : ∃ z9 : Nat → Int32, z9 = (upd fg (Int32.toNatClampNeg a) i) := ⟨_, rfl⟩
              have hP : va_P D vwCl (grw y ad (tI (tI σ 181 fg) 181 f_6)) H := by rw [ef_6]; exact x_trP hP grw_s1
              have hD : va_D A (grw y ad (tI (tI σ 181 fg) 181 f_6)) := by rw [ef_6]; exact x_trD hD grw_s1
              refine lv_aload_n hx hb dX1_fits_46 rfl (lv_at hl 4 rfl) ?_
              refine lv_iload_n hx hb dX1_fits_47 rfl (lv_at hl 3 rfl) ?_
              refine lv_iconst (v := 1) hx hb dX1_fits_48 (by decide) ?_
              refine lv_iadd hx hb dX1_fits_49 ?_
              refine lv_topi (fun i_7 ei_7 => ?_)
              have vi_7 : i_7.toInt = a.toInt + 1 := by have h9 := x_add ei_7 (by omega) (by omega); omega
              refine lv_iload hx hb dX1_fits_50 (lv_at hl 0 rfl) ?_
              refine lv_iload_n hx hb dX1_fits_52 rfl (lv_at hl 2 rfl) ?_
              refine lv_icmp_ne (tgt := 62) hx hb dX1_fits_53 (by decide) (fun c_8 => ?_) (fun c_8 => ?_)
              · have kc_8 : i.toInt ≠ b.toInt := by have h9 := c_8; simp only [ge_iff_le, gt_iff_lt, x_lt, x_le, x_eq, ne_eq, Int32.not_lt, Int32.not_le] at h9; omega
                refine lv_iload_n hx hb dX1_fits_62 rfl (lv_at hl 2 rfl) ?_
                refine lv_iload_n hx hb dX1_fits_63 rfl (lv_at hl 1 rfl) ?_
                refine x_calliW (va_runV (As := [.int i_7, .int b, .int mo]) (rest := []) ⟨hx, hb, hml, hown, hts⟩ (g_fits4 l D y H.size ad (tI (tI σ 181 fg) 181 f_6) i_7 b mo (by first | omega | decide) (by first | omega | decide) (by first | omega | decide) (by first | omega | decide) (by first | omega | decide) (show 0 ≤ ((σ.1 183)).toInt from by first | omega | decide) (show ((σ.1 183)).toInt ≤ 8 from by first | omega | decide)) (cwV 3 hts g_g_fits5_1 rfl rfl rfl (by decide +kernel) ⟨Nat.le_of_ble_eq_true rfl, Nat.le_of_ble_eq_true rfl⟩) (x_preV (q := (RX1, TX1, 3)) hK hP hD (ci := 0) (q0 := 0) rfl grw_o0) rfl rfl hl.1 rfl (lv_room (Nat.le_of_ble_eq_true rfl)) dX1_fits_64 ⟨Nat.le_of_ble_eq_true rfl, Nat.le_of_ble_eq_true rfl⟩) hP hD hS hA (fun r_9 u H locs hw hP hD hS => ?_)
                obtain ⟨f_10, rfl⟩ : ∃ z9, z9 = u := ⟨_, rfl⟩
                try dsimp only at hw
                have hP : va_P D vwCl (grw y ad (tI (tI (tI σ 181 fg) 181 f_6) 181 f_10)) H := hP
                have hD : va_D A (grw y ad (tI (tI (tI σ 181 fg) 181 f_6) 181 f_10)) := hD
                refine lv_if_eq (tgt := 72) hx hb dX1_fits_67 (by decide) (fun c_11 => ?_) (fun c_11 => ?_)
                · have kc_11 : r_9.toInt = 0 := by have h9 := c_11; simp only [ge_iff_le, gt_iff_lt, x_lt, x_le, x_eq, ne_eq, Int32.not_lt, Int32.not_le] at h9; simp only [Int32.reduceToInt] at h9; omega
                  obtain ⟨i_12, ei_12⟩ : ∃ z9 : Int32, z9 = i + 1 := ⟨_, rfl⟩
                  have vi_12 : i_12.toInt = i.toInt + 1 := by have h9 := x_add ei_12 (by omega) (by omega); omega
                  refine lv_iinc (v := i_12) (lv' := [(4, .int i_12), (3, .int mo), (2, .int b), (1, .int a), (0, .ref (ad 180))]) hx hb dX1_fits_72 hl (k := 0) rfl (by rw [ei_12]; rfl) (by decide) rfl (fun ls hl => ?_)
                  refine lv_goto (tgt := 13) hx hb dX1_fits_75 (by decide) ?_
                  have hP : va_P D vwCl (grw y ad (tI σ 181 f_10)) H := hP
                  have hD : va_D A (grw y ad (tI σ 181 f_10)) := hD
                  exact ih_loop i_12 f_10 H locs ls (by omega) (by omega) (by omega) hP hD hS (lv_sub hl [0, 1, 2, 3, 4] rfl)
                · have kc_11 : r_9.toInt ≠ 0 := by have h9 := c_11; simp only [ge_iff_le, gt_iff_lt, x_lt, x_le, x_eq, ne_eq, Int32.not_lt, Int32.not_le] at h9; simp only [Int32.reduceToInt] at h9; omega
                  refine lv_iconst (v := 1) hx hb dX1_fits_70 (by decide) ?_
                  have hP : va_P D vwCl (grw y ad (tI σ 181 f_10)) H := hP
                  have hD : va_D A (grw y ad (tI σ 181 f_10)) := hD
                  exact x_zretW (v := 1) (u := f_10) hx hb hr hQ rfl (by decide) hP hD hK hS dX1_fits_71 hlocks
              · have kc_8 : i.toInt = b.toInt := by have h9 := c_8; simp only [ge_iff_le, gt_iff_lt, x_lt, x_le, x_eq, ne_eq, Int32.not_lt, Int32.not_le] at h9; omega
                refine lv_iload_n hx hb dX1_fits_56 rfl (lv_at hl 2 rfl) ?_
                refine lv_iconst (v := 1) hx hb dX1_fits_57 (by decide) ?_
                refine lv_iadd hx hb dX1_fits_58 ?_
                refine lv_topi (fun i_13 ei_13 => ?_)
                have vi_13 : i_13.toInt = b.toInt + 1 := by have h9 := x_add ei_13 (by omega) (by omega); omega
                refine lv_goto (tgt := 63) hx hb dX1_fits_59 (by decide) ?_
                refine lv_iload_n hx hb dX1_fits_63 rfl (lv_at hl 1 rfl) ?_
                refine x_calliW (va_runV (As := [.int i_7, .int i_13, .int mo]) (rest := []) ⟨hx, hb, hml, hown, hts⟩ (g_fits4 l D y H.size ad (tI (tI σ 181 fg) 181 f_6) i_7 i_13 mo (by first | omega | decide) (by first | omega | decide) (by first | omega | decide) (by first | omega | decide) (by first | omega | decide) (show 0 ≤ ((σ.1 183)).toInt from by first | omega | decide) (show ((σ.1 183)).toInt ≤ 8 from by first | omega | decide)) (cwV 3 hts g_g_fits5_1 rfl rfl rfl (by decide +kernel) ⟨Nat.le_of_ble_eq_true rfl, Nat.le_of_ble_eq_true rfl⟩) (x_preV (q := (RX1, TX1, 3)) hK hP hD (ci := 0) (q0 := 0) rfl grw_o0) rfl rfl hl.1 rfl (lv_room (Nat.le_of_ble_eq_true rfl)) dX1_fits_64 ⟨Nat.le_of_ble_eq_true rfl, Nat.le_of_ble_eq_true rfl⟩) hP hD hS hA (fun r_14 u H locs hw hP hD hS => ?_)
                obtain ⟨f_15, rfl⟩ : ∃ z9, z9 = u := ⟨_, rfl⟩
                try dsimp only at hw
                have hP : va_P D vwCl (grw y ad (tI (tI (tI σ 181 fg) 181 f_6) 181 f_15)) H := hP
                have hD : va_D A (grw y ad (tI (tI (tI σ 181 fg) 181 f_6) 181 f_15)) := hD
                refine lv_if_eq (tgt := 72) hx hb dX1_fits_67 (by decide) (fun c_16 => ?_) (fun c_16 => ?_)
                · have kc_16 : r_14.toInt = 0 := by have h9 := c_16; simp only [ge_iff_le, gt_iff_lt, x_lt, x_le, x_eq, ne_eq, Int32.not_lt, Int32.not_le] at h9; simp only [Int32.reduceToInt] at h9; omega
                  obtain ⟨i_17, ei_17⟩ : ∃ z9 : Int32, z9 = i + 1 := ⟨_, rfl⟩
                  have vi_17 : i_17.toInt = i.toInt + 1 := by have h9 := x_add ei_17 (by omega) (by omega); omega
                  refine lv_iinc (v := i_17) (lv' := [(4, .int i_17), (3, .int mo), (2, .int b), (1, .int a), (0, .ref (ad 180))]) hx hb dX1_fits_72 hl (k := 0) rfl (by rw [ei_17]; rfl) (by decide) rfl (fun ls hl => ?_)
                  refine lv_goto (tgt := 13) hx hb dX1_fits_75 (by decide) ?_
                  have hP : va_P D vwCl (grw y ad (tI σ 181 f_15)) H := hP
                  have hD : va_D A (grw y ad (tI σ 181 f_15)) := hD
                  exact ih_loop i_17 f_15 H locs ls (by omega) (by omega) (by omega) hP hD hS (lv_sub hl [0, 1, 2, 3, 4] rfl)
                · have kc_16 : r_14.toInt ≠ 0 := by have h9 := c_16; simp only [ge_iff_le, gt_iff_lt, x_lt, x_le, x_eq, ne_eq, Int32.not_lt, Int32.not_le] at h9; simp only [Int32.reduceToInt] at h9; omega
                  refine lv_iconst (v := 1) hx hb dX1_fits_70 (by decide) ?_
                  have hP : va_P D vwCl (grw y ad (tI σ 181 f_15)) H := hP
                  have hD : va_D A (grw y ad (tI σ 181 f_15)) := hD
                  exact x_zretW (v := 1) (u := f_15) hx hb hr hQ rfl (by decide) hP hD hK hS dX1_fits_71 hlocks
            · have kc_5 : r_4.toInt = 0 := by have h9 := c_5; simp only [ge_iff_le, gt_iff_lt, x_lt, x_le, x_eq, ne_eq, Int32.not_lt, Int32.not_le] at h9; simp only [Int32.reduceToInt] at h9; omega
              refine lv_goto (tgt := 72) hx hb dX1_fits_35 (by decide) ?_
              obtain ⟨i_18, ei_18⟩ : ∃ z9 : Int32, z9 = i + 1 := ⟨_, rfl⟩
              have vi_18 : i_18.toInt = i.toInt + 1 := by have h9 := x_add ei_18 (by omega) (by omega); omega
              refine lv_iinc (v := i_18) (lv' := [(4, .int i_18), (3, .int mo), (2, .int b), (1, .int a), (0, .ref (ad 180))]) hx hb dX1_fits_72 hl (k := 0) rfl (by rw [ei_18]; rfl) (by decide) rfl (fun ls hl => ?_)
              refine lv_goto (tgt := 13) hx hb dX1_fits_75 (by decide) ?_
              exact ih_loop i_18 fg H locs ls (by omega) (by omega) (by omega) hP hD hS (lv_sub hl [0, 1, 2, 3, 4] rfl)
    exact loop 10 0 (σ.2.2.1 181) H locs ls (by decide) (by omega) (by omega) hP hD hS (lv_sub hl [0, 4, 3, 2, 1] rfl)
  · have kc_1 : a.toInt ≥ (σ.1 183).toInt := by have h9 := c_1; simp only [ge_iff_le, gt_iff_lt, x_lt, x_le, x_eq, ne_eq, Int32.not_lt, Int32.not_le] at h9; omega
    refine lv_iconst (v := 1) hx hb dX1_fits_8 (by decide) ?_
    have hP : va_P D vwCl (grw y ad (tI σ 181 (σ.2.2.1 181))) H := hP
    have hD : va_D A (grw y ad (tI σ 181 (σ.2.2.1 181))) := hD
    exact x_zretW (v := 1) (u := (σ.2.2.1 181)) hx hb hr hQ rfl (by decide) hP hD hK hS dX1_fits_9 hlocks

def v_g_fits6 : List Cond := .code yX1_fits cX1_fits 5 (some .boolean) :: ([.fieldLink RX1 20 "SlopeRunner$Grouping" "inputs" "I", .fieldLink RX1 11 "SlopeRunner$Grouping" "group" "[I"] ++ ((wsV RX1 28 RX1 yX1_isFree v_g_isFree) ++ ((wsV RX1 24 RX1 yX1_fits v_g_fits5) ++ wsX10)))
theorem g_g_fits6_0 : GoodIn v_g_fits6 (wsV RX1 28 RX1 yX1_isFree v_g_isFree) := goodIn_sub (fun w h => List.mem_cons_of_mem _ (List.mem_append_right _ (List.mem_append_left _ h))) (by decide +kernel)
theorem g_g_fits6_1 : GoodIn v_g_fits6 (wsV RX1 24 RX1 yX1_fits v_g_fits5) := goodIn_sub (fun w h => List.mem_cons_of_mem _ (List.mem_append_right _ (List.mem_append_right _ (List.mem_append_left _ h)))) (by decide +kernel)
set_option maxHeartbeats 4000000 in
set_option maxRecDepth 100000 in
theorem g_fits6 (l : Launch) (D : va_G) (y : Nat → ClassId) (sz : Nat) (ad : Nat → Nat) (σ : OS) (a b mo : Int32) (ha0 : 0 ≤ a.toInt) (ha1 : a.toInt ≤ 8) (hb0 : 0 ≤ b.toInt) (hb1 : b.toInt ≤ a.toInt) (hd : 8 - a.toInt ≤ 6) (hin0 : 0 ≤ (σ.1 183).toInt) (hin1 : (σ.1 183).toInt ≤ 8) : Met l yX1_fits v_g_fits6 ({ frames := 6, cells := 0, slots := 0, locals := 144 } : Room) (va_Pc [.ref (ad 180), .int a, .int b, .int mo] (xPre D (xT y) (grw y ad σ) sz)) (va_Qi (fun (r : Int32) (u : (Nat → Int32)) => r.toInt = 0 ∨ r.toInt = 1) (fun (u : (Nat → Int32)) => xB D (xT y) (va_A (grw y ad σ) sz) (grw y ad (tI σ 181 u))) (va_A (grw y ad σ) sz)) 0 0 (va_A (grw y ad σ) sz) := by
  refine x_meti (cc := cX1_fits) (maxL := 5) (by decide) rfl (Nat.le_of_ble_eq_true rfl) ?_
  intro p e s m below meth c A H locs Q hx hb hml hown hts hr hlocks hmn hA hP hK hD hS ls hl hQ
  have hl : lv_has ls 5 [(0, .ref (ad 180)), (1, .int a), (2, .int b), (3, .int mo)] := hl
  have fl20 := hts (.fieldLink RX1 20 "SlopeRunner$Grouping" "inputs" "I") (List.mem_of_getElem? (i := 1) rfl)
  have inX1 : ∀ w ∈ wsX10, w ∈ v_g_fits6 := (fun w h => List.mem_cons_of_mem _ (List.mem_append_right _ (List.mem_append_right _ (List.mem_append_right _ h))))
  have kk_0 : (0 : Int32).toInt = 0 := rfl
  have fl11 := hts (.fieldLink RX1 11 "SlopeRunner$Grouping" "group" "[I") (List.mem_of_getElem? (i := 2) rfl)
  have kk_1 : (1 : Int32).toInt = 1 := rfl
  refine lv_iload_n hx hb dX1_fits_0 rfl (lv_at hl 1 rfl) ?_
  refine lv_aload_n hx hb dX1_fits_1 rfl (lv_at hl 0 rfl) ?_
  refine va_get (D := D) (ci := 0) (v := .int (σ.1 183)) (C := RX1) (T := TX1) (N := 3) hx hb hts inX1 hown hK hP 0 grw_o0 rfl 2 (by decide) fl20 (fun _ h9 => h9) rfl dX1_fits_2 ?_
  refine lv_icmp_lt (tgt := 10) hx hb dX1_fits_5 (by decide) (fun c_1 => ?_) (fun c_1 => ?_)
  · have kc_1 : a.toInt < (σ.1 183).toInt := by have h9 := c_1; simp only [ge_iff_le, gt_iff_lt, x_lt, x_le, x_eq, ne_eq, Int32.not_lt, Int32.not_le] at h9; omega
    refine lv_iconst (v := 0) hx hb dX1_fits_10 (by decide) ?_
    refine lv_istore (lv' := [(4, .int 0), (0, .ref (ad 180)), (1, .int a), (2, .int b), (3, .int mo)]) hx hb dX1_fits_11 hl (by decide) rfl (fun ls hl => ?_)
    have l00 : (0 : Int32).toInt = 0 := rfl
    have hP : va_P D vwCl (grw y ad (tI σ 181 (σ.2.2.1 181))) H := hP
    have hD : va_D A (grw y ad (tI σ 181 (σ.2.2.1 181))) := hD
    have loop : ∀ (fu : Nat) (i : Int32) (fg : Nat → Int32) (H : Heap) (locs : List Loc) (ls : Array Slot), (0 ≤ i.toInt) → (i.toInt ≤ b.toInt + 1) → (b.toInt + 1 - i.toInt < (fu : Int)) → va_P D vwCl (grw y ad (tI σ 181 fg)) H → va_D A (grw y ad (tI σ 181 fg)) → va_S A s.heap H locs → lv_has ls 5 [(4, .int i), (3, .int mo), (2, .int b), (1, .int a), (0, .ref (ad 180))] → W p l e ({ frames := 6, cells := 0, slots := 0, locals := 144 } : Room) s m ([.ref (ad 180), .int a, .int b, .int mo] : List Value).toArray below meth c H locs 0 0 Q (F0 m 13 ls []) := by
      intro fu
      induction fu with
      | zero =>
        intro i fg H locs ls hi0 hi1 hm
        exact absurd hm (by omega)
      | succ fu ih_loop =>
        intro i fg H locs ls hi0 hi1 hm hP hD hS hl
        refine lv_iload hx hb dX1_fits_13 (lv_at hl 0 rfl) ?_
        refine lv_iload_n hx hb dX1_fits_15 rfl (lv_at hl 2 rfl) ?_
        refine lv_icmp_gt (tgt := 78) hx hb dX1_fits_16 (by decide) (fun c_2 => ?_) (fun c_2 => ?_)
        · have kc_2 : i.toInt > b.toInt := by have h9 := c_2; simp only [ge_iff_le, gt_iff_lt, x_lt, x_le, x_eq, ne_eq, Int32.not_lt, Int32.not_le] at h9; omega
          refine lv_iconst (v := 0) hx hb dX1_fits_78 (by decide) ?_
          exact x_zretW (v := 0) (u := fg) hx hb hr hQ rfl (by decide) hP hD hK hS dX1_fits_79 hlocks
        · have kc_2 : i.toInt ≤ b.toInt := by have h9 := c_2; simp only [ge_iff_le, gt_iff_lt, x_lt, x_le, x_eq, ne_eq, Int32.not_lt, Int32.not_le] at h9; omega
          refine lv_iload hx hb dX1_fits_19 (lv_at hl 0 rfl) ?_
          refine lv_iload_n hx hb dX1_fits_21 rfl (lv_at hl 1 rfl) ?_
          refine lv_icmp_ge (tgt := 78) hx hb dX1_fits_22 (by decide) (fun c_3 => ?_) (fun c_3 => ?_)
          · have kc_3 : i.toInt ≥ mo.toInt := by have h9 := c_3; simp only [ge_iff_le, gt_iff_lt, x_lt, x_le, x_eq, ne_eq, Int32.not_lt, Int32.not_le] at h9; omega
            refine lv_iconst (v := 0) hx hb dX1_fits_78 (by decide) ?_
            exact x_zretW (v := 0) (u := fg) hx hb hr hQ rfl (by decide) hP hD hK hS dX1_fits_79 hlocks
          · have kc_3 : i.toInt < mo.toInt := by have h9 := c_3; simp only [ge_iff_le, gt_iff_lt, x_lt, x_le, x_eq, ne_eq, Int32.not_lt, Int32.not_le] at h9; omega
            refine lv_aload_n hx hb dX1_fits_25 rfl (lv_at hl 4 rfl) ?_
            refine lv_iload_n hx hb dX1_fits_26 rfl (lv_at hl 3 rfl) ?_
            refine lv_iload hx hb dX1_fits_27 (lv_at hl 0 rfl) ?_
            refine x_calliW (va_runV (As := [.int a, .int i]) (rest := []) ⟨hx, hb, hml, hown, hts⟩ (g_isFree l D y H.size ad (tI σ 181 fg) a i (by first | omega | decide) (by first | omega | decide)) (cwV 2 hts g_g_fits6_0 rfl rfl rfl (by decide +kernel) ⟨Nat.le_of_ble_eq_true rfl, Nat.le_of_ble_eq_true rfl⟩) (x_preV (q := (RX1, TX1, 3)) hK hP hD (ci := 0) (q0 := 0) rfl grw_o0) rfl rfl hl.1 rfl (lv_room (Nat.le_of_ble_eq_true rfl)) dX1_fits_29 ⟨Nat.le_of_ble_eq_true rfl, Nat.le_of_ble_eq_true rfl⟩) hP hD hS hA (fun r_4 u H locs hw hP hD hS => ?_)
            try dsimp only at hw
            have hP : va_P D vwCl (grw y ad (tI σ 181 fg)) H := hP
            have hD : va_D A (grw y ad (tI σ 181 fg)) := hD
            refine lv_if_ne (tgt := 38) hx hb dX1_fits_32 (by decide) (fun c_5 => ?_) (fun c_5 => ?_)
            · have kc_5 : r_4.toInt ≠ 0 := by have h9 := c_5; simp only [ge_iff_le, gt_iff_lt, x_lt, x_le, x_eq, ne_eq, Int32.not_lt, Int32.not_le] at h9; simp only [Int32.reduceToInt] at h9; omega
              refine lv_aload_n hx hb dX1_fits_38 rfl (lv_at hl 4 rfl) ?_
              refine va_get (D := D) (ci := 0) (v := .ref (ad 181)) (C := RX1) (T := TX1) (N := 3) hx hb hts inX1 hown hK hP 0 grw_o0 rfl 0 (by decide) fl11 (fun _ h9 => h9) rfl dX1_fits_39 ?_
              refine lv_iload_n hx hb dX1_fits_42 rfl (lv_at hl 3 rfl) ?_
              refine lv_iload hx hb dX1_fits_43 (lv_at hl 0 rfl) ?_
              refine va_iast hx hb hK hP hD hS 1 2 grw_a1 rfl (x_in (by omega) (by omega)) dX1_fits_45 (fun H locs hP hD hS => ?_)
              obtain ⟨f_6, ef_6⟩ : ∃ z9 : Nat → Int32, z9 = (upd fg (Int32.toNatClampNeg a) i) := ⟨_, rfl⟩
              have hP : va_P D vwCl (grw y ad (tI (tI σ 181 fg) 181 f_6)) H := by rw [ef_6]; exact x_trP hP grw_s1
              have hD : va_D A (grw y ad (tI (tI σ 181 fg) 181 f_6)) := by rw [ef_6]; exact x_trD hD grw_s1
              refine lv_aload_n hx hb dX1_fits_46 rfl (lv_at hl 4 rfl) ?_
              refine lv_iload_n hx hb dX1_fits_47 rfl (lv_at hl 3 rfl) ?_
              refine lv_iconst (v := 1) hx hb dX1_fits_48 (by decide) ?_
              refine lv_iadd hx hb dX1_fits_49 ?_
              refine lv_topi (fun i_7 ei_7 => ?_)
              have vi_7 : i_7.toInt = a.toInt + 1 := by have h9 := x_add ei_7 (by omega) (by omega); omega
              refine lv_iload hx hb dX1_fits_50 (lv_at hl 0 rfl) ?_
              refine lv_iload_n hx hb dX1_fits_52 rfl (lv_at hl 2 rfl) ?_
              refine lv_icmp_ne (tgt := 62) hx hb dX1_fits_53 (by decide) (fun c_8 => ?_) (fun c_8 => ?_)
              · have kc_8 : i.toInt ≠ b.toInt := by have h9 := c_8; simp only [ge_iff_le, gt_iff_lt, x_lt, x_le, x_eq, ne_eq, Int32.not_lt, Int32.not_le] at h9; omega
                refine lv_iload_n hx hb dX1_fits_62 rfl (lv_at hl 2 rfl) ?_
                refine lv_iload_n hx hb dX1_fits_63 rfl (lv_at hl 1 rfl) ?_
                refine x_calliW (va_runV (As := [.int i_7, .int b, .int mo]) (rest := []) ⟨hx, hb, hml, hown, hts⟩ (g_fits5 l D y H.size ad (tI (tI σ 181 fg) 181 f_6) i_7 b mo (by first | omega | decide) (by first | omega | decide) (by first | omega | decide) (by first | omega | decide) (by first | omega | decide) (show 0 ≤ ((σ.1 183)).toInt from by first | omega | decide) (show ((σ.1 183)).toInt ≤ 8 from by first | omega | decide)) (cwV 3 hts g_g_fits6_1 rfl rfl rfl (by decide +kernel) ⟨Nat.le_of_ble_eq_true rfl, Nat.le_of_ble_eq_true rfl⟩) (x_preV (q := (RX1, TX1, 3)) hK hP hD (ci := 0) (q0 := 0) rfl grw_o0) rfl rfl hl.1 rfl (lv_room (Nat.le_of_ble_eq_true rfl)) dX1_fits_64 ⟨Nat.le_of_ble_eq_true rfl, Nat.le_of_ble_eq_true rfl⟩) hP hD hS hA (fun r_9 u H locs hw hP hD hS => ?_)
                obtain ⟨f_10, rfl⟩ : ∃ z9, z9 = u := ⟨_, rfl⟩
                try dsimp only at hw
                have hP : va_P D vwCl (grw y ad (tI (tI (tI σ 181 fg) 181 f_6) 181 f_10)) H := hP
                have hD : va_D A (grw y ad (tI (tI (tI σ 181 fg) 181 f_6) 181 f_10)) := hD
                refine lv_if_eq (tgt := 72) hx hb dX1_fits_67 (by decide) (fun c_11 => ?_) (fun c_11 => ?_)
                · have kc_11 : r_9.toInt = 0 := by have h9 := c_11; simp only [ge_iff_le, gt_iff_lt, x_lt, x_le, x_eq, ne_eq, Int32.not_lt, Int32.not_le] at h9; simp only [Int32.reduceToInt] at h9; omega
                  obtain ⟨i_12, ei_12⟩ : ∃ z9 : Int32, z9 = i + 1 := ⟨_, rfl⟩
                  have vi_12 : i_12.toInt = i.toInt + 1 := by have h9 := x_add ei_12 (by omega) (by omega); omega
                  refine lv_iinc (v := i_12) (lv' := [(4, .int i_12), (3, .int mo), (2, .int b), (1, .int a), (0, .ref (ad 180))]) hx hb dX1_fits_72 hl (k := 0) rfl (by rw [ei_12]; rfl) (by decide) rfl (fun ls hl => ?_)
                  refine lv_goto (tgt := 13) hx hb dX1_fits_75 (by decide) ?_
                  have hP : va_P D vwCl (grw y ad (tI σ 181 f_10)) H := hP
                  have hD : va_D A (grw y ad (tI σ 181 f_10)) := hD
                  exact ih_loop i_12 f_10 H locs ls (by omega) (by omega) (by omega) hP hD hS (lv_sub hl [0, 1, 2, 3, 4] rfl)
                · have kc_11 : r_9.toInt ≠ 0 := by have h9 := c_11; simp only [ge_iff_le, gt_iff_lt, x_lt, x_le, x_eq, ne_eq, Int32.not_lt, Int32.not_le] at h9; simp only [Int32.reduceToInt] at h9; omega
                  refine lv_iconst (v := 1) hx hb dX1_fits_70 (by decide) ?_
                  have hP : va_P D vwCl (grw y ad (tI σ 181 f_10)) H := hP
                  have hD : va_D A (grw y ad (tI σ 181 f_10)) := hD
                  exact x_zretW (v := 1) (u := f_10) hx hb hr hQ rfl (by decide) hP hD hK hS dX1_fits_71 hlocks
              · have kc_8 : i.toInt = b.toInt := by have h9 := c_8; simp only [ge_iff_le, gt_iff_lt, x_lt, x_le, x_eq, ne_eq, Int32.not_lt, Int32.not_le] at h9; omega
                refine lv_iload_n hx hb dX1_fits_56 rfl (lv_at hl 2 rfl) ?_
                refine lv_iconst (v := 1) hx hb dX1_fits_57 (by decide) ?_
                refine lv_iadd hx hb dX1_fits_58 ?_
                refine lv_topi (fun i_13 ei_13 => ?_)
                have vi_13 : i_13.toInt = b.toInt + 1 := by have h9 := x_add ei_13 (by omega) (by omega); omega
                refine lv_goto (tgt := 63) hx hb dX1_fits_59 (by decide) ?_
                refine lv_iload_n hx hb dX1_fits_63 rfl (lv_at hl 1 rfl) ?_
                refine x_calliW (va_runV (As := [.int i_7, .int i_13, .int mo]) (rest := []) ⟨hx, hb, hml, hown, hts⟩ (g_fits5 l D y H.size ad (tI (tI σ 181 fg) 181 f_6) i_7 i_13 mo (by first | omega | decide) (by first | omega | decide) (by first | omega | decide) (by first | omega | decide) (by first | omega | decide) (show 0 ≤ ((σ.1 183)).toInt from by first | omega | decide) (show ((σ.1 183)).toInt ≤ 8 from by first | omega | decide)) (cwV 3 hts g_g_fits6_1 rfl rfl rfl (by decide +kernel) ⟨Nat.le_of_ble_eq_true rfl, Nat.le_of_ble_eq_true rfl⟩) (x_preV (q := (RX1, TX1, 3)) hK hP hD (ci := 0) (q0 := 0) rfl grw_o0) rfl rfl hl.1 rfl (lv_room (Nat.le_of_ble_eq_true rfl)) dX1_fits_64 ⟨Nat.le_of_ble_eq_true rfl, Nat.le_of_ble_eq_true rfl⟩) hP hD hS hA (fun r_14 u H locs hw hP hD hS => ?_)
                obtain ⟨f_15, rfl⟩ : ∃ z9, z9 = u := ⟨_, rfl⟩
                try dsimp only at hw
                have hP : va_P D vwCl (grw y ad (tI (tI (tI σ 181 fg) 181 f_6) 181 f_15)) H := hP
                have hD : va_D A (grw y ad (tI (tI (tI σ 181 fg) 181 f_6) 181 f_15)) := hD
                refine lv_if_eq (tgt := 72) hx hb dX1_fits_67 (by decide) (fun c_16 => ?_) (fun c_16 => ?_)
                · have kc_16 : r_14.toInt = 0 := by have h9 := c_16; simp only [ge_iff_le, gt_iff_lt, x_lt, x_le, x_eq, ne_eq, Int32.not_lt, Int32.not_le] at h9; simp only [Int32.reduceToInt] at h9; omega
                  obtain ⟨i_17, ei_17⟩ : ∃ z9 : Int32, z9 = i + 1 := ⟨_, rfl⟩
                  have vi_17 : i_17.toInt = i.toInt + 1 := by have h9 := x_add ei_17 (by omega) (by omega); omega
                  refine lv_iinc (v := i_17) (lv' := [(4, .int i_17), (3, .int mo), (2, .int b), (1, .int a), (0, .ref (ad 180))]) hx hb dX1_fits_72 hl (k := 0) rfl (by rw [ei_17]; rfl) (by decide) rfl (fun ls hl => ?_)
                  refine lv_goto (tgt := 13) hx hb dX1_fits_75 (by decide) ?_
                  have hP : va_P D vwCl (grw y ad (tI σ 181 f_15)) H := hP
                  have hD : va_D A (grw y ad (tI σ 181 f_15)) := hD
                  exact ih_loop i_17 f_15 H locs ls (by omega) (by omega) (by omega) hP hD hS (lv_sub hl [0, 1, 2, 3, 4] rfl)
                · have kc_16 : r_14.toInt ≠ 0 := by have h9 := c_16; simp only [ge_iff_le, gt_iff_lt, x_lt, x_le, x_eq, ne_eq, Int32.not_lt, Int32.not_le] at h9; simp only [Int32.reduceToInt] at h9; omega
                  refine lv_iconst (v := 1) hx hb dX1_fits_70 (by decide) ?_
                  have hP : va_P D vwCl (grw y ad (tI σ 181 f_15)) H := hP
                  have hD : va_D A (grw y ad (tI σ 181 f_15)) := hD
                  exact x_zretW (v := 1) (u := f_15) hx hb hr hQ rfl (by decide) hP hD hK hS dX1_fits_71 hlocks
            · have kc_5 : r_4.toInt = 0 := by have h9 := c_5; simp only [ge_iff_le, gt_iff_lt, x_lt, x_le, x_eq, ne_eq, Int32.not_lt, Int32.not_le] at h9; simp only [Int32.reduceToInt] at h9; omega
              refine lv_goto (tgt := 72) hx hb dX1_fits_35 (by decide) ?_
              obtain ⟨i_18, ei_18⟩ : ∃ z9 : Int32, z9 = i + 1 := ⟨_, rfl⟩
              have vi_18 : i_18.toInt = i.toInt + 1 := by have h9 := x_add ei_18 (by omega) (by omega); omega
              refine lv_iinc (v := i_18) (lv' := [(4, .int i_18), (3, .int mo), (2, .int b), (1, .int a), (0, .ref (ad 180))]) hx hb dX1_fits_72 hl (k := 0) rfl (by rw [ei_18]; rfl) (by decide) rfl (fun ls hl => ?_)
              refine lv_goto (tgt := 13) hx hb dX1_fits_75 (by decide) ?_
              exact ih_loop i_18 fg H locs ls (by omega) (by omega) (by omega) hP hD hS (lv_sub hl [0, 1, 2, 3, 4] rfl)
    exact loop 10 0 (σ.2.2.1 181) H locs ls (by decide) (by omega) (by omega) hP hD hS (lv_sub hl [0, 4, 3, 2, 1] rfl)
  · have kc_1 : a.toInt ≥ (σ.1 183).toInt := by have h9 := c_1; simp only [ge_iff_le, gt_iff_lt, x_lt, x_le, x_eq, ne_eq, Int32.not_lt, Int32.not_le] at h9; omega
    refine lv_iconst (v := 1) hx hb dX1_fits_8 (by decide) ?_
    have hP : va_P D vwCl (grw y ad (tI σ 181 (σ.2.2.1 181))) H := hP
    have hD : va_D A (grw y ad (tI σ 181 (σ.2.2.1 181))) := hD
    exact x_zretW (v := 1) (u := (σ.2.2.1 181)) hx hb hr hQ rfl (by decide) hP hD hK hS dX1_fits_9 hlocks

def v_g_fits7 : List Cond := .code yX1_fits cX1_fits 5 (some .boolean) :: ([.fieldLink RX1 20 "SlopeRunner$Grouping" "inputs" "I", .fieldLink RX1 11 "SlopeRunner$Grouping" "group" "[I"] ++ ((wsV RX1 28 RX1 yX1_isFree v_g_isFree) ++ ((wsV RX1 24 RX1 yX1_fits v_g_fits6) ++ wsX10)))
theorem g_g_fits7_0 : GoodIn v_g_fits7 (wsV RX1 28 RX1 yX1_isFree v_g_isFree) := goodIn_sub (fun w h => List.mem_cons_of_mem _ (List.mem_append_right _ (List.mem_append_left _ h))) (by decide +kernel)
theorem g_g_fits7_1 : GoodIn v_g_fits7 (wsV RX1 24 RX1 yX1_fits v_g_fits6) := goodIn_sub (fun w h => List.mem_cons_of_mem _ (List.mem_append_right _ (List.mem_append_right _ (List.mem_append_left _ h)))) (by decide +kernel)
set_option maxHeartbeats 4000000 in
set_option maxRecDepth 100000 in
theorem g_fits7 (l : Launch) (D : va_G) (y : Nat → ClassId) (sz : Nat) (ad : Nat → Nat) (σ : OS) (a b mo : Int32) (ha0 : 0 ≤ a.toInt) (ha1 : a.toInt ≤ 8) (hb0 : 0 ≤ b.toInt) (hb1 : b.toInt ≤ a.toInt) (hd : 8 - a.toInt ≤ 7) (hin0 : 0 ≤ (σ.1 183).toInt) (hin1 : (σ.1 183).toInt ≤ 8) : Met l yX1_fits v_g_fits7 ({ frames := 7, cells := 0, slots := 0, locals := 168 } : Room) (va_Pc [.ref (ad 180), .int a, .int b, .int mo] (xPre D (xT y) (grw y ad σ) sz)) (va_Qi (fun (r : Int32) (u : (Nat → Int32)) => r.toInt = 0 ∨ r.toInt = 1) (fun (u : (Nat → Int32)) => xB D (xT y) (va_A (grw y ad σ) sz) (grw y ad (tI σ 181 u))) (va_A (grw y ad σ) sz)) 0 0 (va_A (grw y ad σ) sz) := by
  refine x_meti (cc := cX1_fits) (maxL := 5) (by decide) rfl (Nat.le_of_ble_eq_true rfl) ?_
  intro p e s m below meth c A H locs Q hx hb hml hown hts hr hlocks hmn hA hP hK hD hS ls hl hQ
  have hl : lv_has ls 5 [(0, .ref (ad 180)), (1, .int a), (2, .int b), (3, .int mo)] := hl
  have fl20 := hts (.fieldLink RX1 20 "SlopeRunner$Grouping" "inputs" "I") (List.mem_of_getElem? (i := 1) rfl)
  have inX1 : ∀ w ∈ wsX10, w ∈ v_g_fits7 := (fun w h => List.mem_cons_of_mem _ (List.mem_append_right _ (List.mem_append_right _ (List.mem_append_right _ h))))
  have kk_0 : (0 : Int32).toInt = 0 := rfl
  have fl11 := hts (.fieldLink RX1 11 "SlopeRunner$Grouping" "group" "[I") (List.mem_of_getElem? (i := 2) rfl)
  have kk_1 : (1 : Int32).toInt = 1 := rfl
  refine lv_iload_n hx hb dX1_fits_0 rfl (lv_at hl 1 rfl) ?_
  refine lv_aload_n hx hb dX1_fits_1 rfl (lv_at hl 0 rfl) ?_
  refine va_get (D := D) (ci := 0) (v := .int (σ.1 183)) (C := RX1) (T := TX1) (N := 3) hx hb hts inX1 hown hK hP 0 grw_o0 rfl 2 (by decide) fl20 (fun _ h9 => h9) rfl dX1_fits_2 ?_
  refine lv_icmp_lt (tgt := 10) hx hb dX1_fits_5 (by decide) (fun c_1 => ?_) (fun c_1 => ?_)
  · have kc_1 : a.toInt < (σ.1 183).toInt := by have h9 := c_1; simp only [ge_iff_le, gt_iff_lt, x_lt, x_le, x_eq, ne_eq, Int32.not_lt, Int32.not_le] at h9; omega
    refine lv_iconst (v := 0) hx hb dX1_fits_10 (by decide) ?_
    refine lv_istore (lv' := [(4, .int 0), (0, .ref (ad 180)), (1, .int a), (2, .int b), (3, .int mo)]) hx hb dX1_fits_11 hl (by decide) rfl (fun ls hl => ?_)
    have l00 : (0 : Int32).toInt = 0 := rfl
    have hP : va_P D vwCl (grw y ad (tI σ 181 (σ.2.2.1 181))) H := hP
    have hD : va_D A (grw y ad (tI σ 181 (σ.2.2.1 181))) := hD
    have loop : ∀ (fu : Nat) (i : Int32) (fg : Nat → Int32) (H : Heap) (locs : List Loc) (ls : Array Slot), (0 ≤ i.toInt) → (i.toInt ≤ b.toInt + 1) → (b.toInt + 1 - i.toInt < (fu : Int)) → va_P D vwCl (grw y ad (tI σ 181 fg)) H → va_D A (grw y ad (tI σ 181 fg)) → va_S A s.heap H locs → lv_has ls 5 [(4, .int i), (3, .int mo), (2, .int b), (1, .int a), (0, .ref (ad 180))] → W p l e ({ frames := 7, cells := 0, slots := 0, locals := 168 } : Room) s m ([.ref (ad 180), .int a, .int b, .int mo] : List Value).toArray below meth c H locs 0 0 Q (F0 m 13 ls []) := by
      intro fu
      induction fu with
      | zero =>
        intro i fg H locs ls hi0 hi1 hm
        exact absurd hm (by omega)
      | succ fu ih_loop =>
        intro i fg H locs ls hi0 hi1 hm hP hD hS hl
        refine lv_iload hx hb dX1_fits_13 (lv_at hl 0 rfl) ?_
        refine lv_iload_n hx hb dX1_fits_15 rfl (lv_at hl 2 rfl) ?_
        refine lv_icmp_gt (tgt := 78) hx hb dX1_fits_16 (by decide) (fun c_2 => ?_) (fun c_2 => ?_)
        · have kc_2 : i.toInt > b.toInt := by have h9 := c_2; simp only [ge_iff_le, gt_iff_lt, x_lt, x_le, x_eq, ne_eq, Int32.not_lt, Int32.not_le] at h9; omega
          refine lv_iconst (v := 0) hx hb dX1_fits_78 (by decide) ?_
          exact x_zretW (v := 0) (u := fg) hx hb hr hQ rfl (by decide) hP hD hK hS dX1_fits_79 hlocks
        · have kc_2 : i.toInt ≤ b.toInt := by have h9 := c_2; simp only [ge_iff_le, gt_iff_lt, x_lt, x_le, x_eq, ne_eq, Int32.not_lt, Int32.not_le] at h9; omega
          refine lv_iload hx hb dX1_fits_19 (lv_at hl 0 rfl) ?_
          refine lv_iload_n hx hb dX1_fits_21 rfl (lv_at hl 1 rfl) ?_
          refine lv_icmp_ge (tgt := 78) hx hb dX1_fits_22 (by decide) (fun c_3 => ?_) (fun c_3 => ?_)
          · have kc_3 : i.toInt ≥ mo.toInt := by have h9 := c_3; simp only [ge_iff_le, gt_iff_lt, x_lt, x_le, x_eq, ne_eq, Int32.not_lt, Int32.not_le] at h9; omega
            refine lv_iconst (v := 0) hx hb dX1_fits_78 (by decide) ?_
            exact x_zretW (v := 0) (u := fg) hx hb hr hQ rfl (by decide) hP hD hK hS dX1_fits_79 hlocks
          · have kc_3 : i.toInt < mo.toInt := by have h9 := c_3; simp only [ge_iff_le, gt_iff_lt, x_lt, x_le, x_eq, ne_eq, Int32.not_lt, Int32.not_le] at h9; omega
            refine lv_aload_n hx hb dX1_fits_25 rfl (lv_at hl 4 rfl) ?_
            refine lv_iload_n hx hb dX1_fits_26 rfl (lv_at hl 3 rfl) ?_
            refine lv_iload hx hb dX1_fits_27 (lv_at hl 0 rfl) ?_
            refine x_calliW (va_runV (As := [.int a, .int i]) (rest := []) ⟨hx, hb, hml, hown, hts⟩ (g_isFree l D y H.size ad (tI σ 181 fg) a i (by first | omega | decide) (by first | omega | decide)) (cwV 2 hts g_g_fits7_0 rfl rfl rfl (by decide +kernel) ⟨Nat.le_of_ble_eq_true rfl, Nat.le_of_ble_eq_true rfl⟩) (x_preV (q := (RX1, TX1, 3)) hK hP hD (ci := 0) (q0 := 0) rfl grw_o0) rfl rfl hl.1 rfl (lv_room (Nat.le_of_ble_eq_true rfl)) dX1_fits_29 ⟨Nat.le_of_ble_eq_true rfl, Nat.le_of_ble_eq_true rfl⟩) hP hD hS hA (fun r_4 u H locs hw hP hD hS => ?_)
            try dsimp only at hw
            have hP : va_P D vwCl (grw y ad (tI σ 181 fg)) H := hP
            have hD : va_D A (grw y ad (tI σ 181 fg)) := hD
            refine lv_if_ne (tgt := 38) hx hb dX1_fits_32 (by decide) (fun c_5 => ?_) (fun c_5 => ?_)
            · have kc_5 : r_4.toInt ≠ 0 := by have h9 := c_5; simp only [ge_iff_le, gt_iff_lt, x_lt, x_le, x_eq, ne_eq, Int32.not_lt, Int32.not_le] at h9; simp only [Int32.reduceToInt] at h9; omega
              refine lv_aload_n hx hb dX1_fits_38 rfl (lv_at hl 4 rfl) ?_
              refine va_get (D := D) (ci := 0) (v := .ref (ad 181)) (C := RX1) (T := TX1) (N := 3) hx hb hts inX1 hown hK hP 0 grw_o0 rfl 0 (by decide) fl11 (fun _ h9 => h9) rfl dX1_fits_39 ?_
              refine lv_iload_n hx hb dX1_fits_42 rfl (lv_at hl 3 rfl) ?_
              refine lv_iload hx hb dX1_fits_43 (lv_at hl 0 rfl) ?_
              refine va_iast hx hb hK hP hD hS 1 2 grw_a1 rfl (x_in (by omega) (by omega)) dX1_fits_45 (fun H locs hP hD hS => ?_)
              obtain ⟨f_6, ef_6⟩ : ∃ z9 : Nat → Int32, z9 = (upd fg (Int32.toNatClampNeg a) i) := ⟨_, rfl⟩
              have hP : va_P D vwCl (grw y ad (tI (tI σ 181 fg) 181 f_6)) H := by rw [ef_6]; exact x_trP hP grw_s1
              have hD : va_D A (grw y ad (tI (tI σ 181 fg) 181 f_6)) := by rw [ef_6]; exact x_trD hD grw_s1
              refine lv_aload_n hx hb dX1_fits_46 rfl (lv_at hl 4 rfl) ?_
              refine lv_iload_n hx hb dX1_fits_47 rfl (lv_at hl 3 rfl) ?_
              refine lv_iconst (v := 1) hx hb dX1_fits_48 (by decide) ?_
              refine lv_iadd hx hb dX1_fits_49 ?_
              refine lv_topi (fun i_7 ei_7 => ?_)
              have vi_7 : i_7.toInt = a.toInt + 1 := by have h9 := x_add ei_7 (by omega) (by omega); omega
              refine lv_iload hx hb dX1_fits_50 (lv_at hl 0 rfl) ?_
              refine lv_iload_n hx hb dX1_fits_52 rfl (lv_at hl 2 rfl) ?_
              refine lv_icmp_ne (tgt := 62) hx hb dX1_fits_53 (by decide) (fun c_8 => ?_) (fun c_8 => ?_)
              · have kc_8 : i.toInt ≠ b.toInt := by have h9 := c_8; simp only [ge_iff_le, gt_iff_lt, x_lt, x_le, x_eq, ne_eq, Int32.not_lt, Int32.not_le] at h9; omega
                refine lv_iload_n hx hb dX1_fits_62 rfl (lv_at hl 2 rfl) ?_
                refine lv_iload_n hx hb dX1_fits_63 rfl (lv_at hl 1 rfl) ?_
                refine x_calliW (va_runV (As := [.int i_7, .int b, .int mo]) (rest := []) ⟨hx, hb, hml, hown, hts⟩ (g_fits6 l D y H.size ad (tI (tI σ 181 fg) 181 f_6) i_7 b mo (by first | omega | decide) (by first | omega | decide) (by first | omega | decide) (by first | omega | decide) (by first | omega | decide) (show 0 ≤ ((σ.1 183)).toInt from by first | omega | decide) (show ((σ.1 183)).toInt ≤ 8 from by first | omega | decide)) (cwV 3 hts g_g_fits7_1 rfl rfl rfl (by decide +kernel) ⟨Nat.le_of_ble_eq_true rfl, Nat.le_of_ble_eq_true rfl⟩) (x_preV (q := (RX1, TX1, 3)) hK hP hD (ci := 0) (q0 := 0) rfl grw_o0) rfl rfl hl.1 rfl (lv_room (Nat.le_of_ble_eq_true rfl)) dX1_fits_64 ⟨Nat.le_of_ble_eq_true rfl, Nat.le_of_ble_eq_true rfl⟩) hP hD hS hA (fun r_9 u H locs hw hP hD hS => ?_)
                obtain ⟨f_10, rfl⟩ : ∃ z9, z9 = u := ⟨_, rfl⟩
                try dsimp only at hw
                have hP : va_P D vwCl (grw y ad (tI (tI (tI σ 181 fg) 181 f_6) 181 f_10)) H := hP
                have hD : va_D A (grw y ad (tI (tI (tI σ 181 fg) 181 f_6) 181 f_10)) := hD
                refine lv_if_eq (tgt := 72) hx hb dX1_fits_67 (by decide) (fun c_11 => ?_) (fun c_11 => ?_)
                · have kc_11 : r_9.toInt = 0 := by have h9 := c_11; simp only [ge_iff_le, gt_iff_lt, x_lt, x_le, x_eq, ne_eq, Int32.not_lt, Int32.not_le] at h9; simp only [Int32.reduceToInt] at h9; omega
                  obtain ⟨i_12, ei_12⟩ : ∃ z9 : Int32, z9 = i + 1 := ⟨_, rfl⟩
                  have vi_12 : i_12.toInt = i.toInt + 1 := by have h9 := x_add ei_12 (by omega) (by omega); omega
                  refine lv_iinc (v := i_12) (lv' := [(4, .int i_12), (3, .int mo), (2, .int b), (1, .int a), (0, .ref (ad 180))]) hx hb dX1_fits_72 hl (k := 0) rfl (by rw [ei_12]; rfl) (by decide) rfl (fun ls hl => ?_)
                  refine lv_goto (tgt := 13) hx hb dX1_fits_75 (by decide) ?_
                  have hP : va_P D vwCl (grw y ad (tI σ 181 f_10)) H := hP
                  have hD : va_D A (grw y ad (tI σ 181 f_10)) := hD
                  exact ih_loop i_12 f_10 H locs ls (by omega) (by omega) (by omega) hP hD hS (lv_sub hl [0, 1, 2, 3, 4] rfl)
                · have kc_11 : r_9.toInt ≠ 0 := by have h9 := c_11; simp only [ge_iff_le, gt_iff_lt, x_lt, x_le, x_eq, ne_eq, Int32.not_lt, Int32.not_le] at h9; simp only [Int32.reduceToInt] at h9; omega
                  refine lv_iconst (v := 1) hx hb dX1_fits_70 (by decide) ?_
                  have hP : va_P D vwCl (grw y ad (tI σ 181 f_10)) H := hP
                  have hD : va_D A (grw y ad (tI σ 181 f_10)) := hD
                  exact x_zretW (v := 1) (u := f_10) hx hb hr hQ rfl (by decide) hP hD hK hS dX1_fits_71 hlocks
              · have kc_8 : i.toInt = b.toInt := by have h9 := c_8; simp only [ge_iff_le, gt_iff_lt, x_lt, x_le, x_eq, ne_eq, Int32.not_lt, Int32.not_le] at h9; omega
                refine lv_iload_n hx hb dX1_fits_56 rfl (lv_at hl 2 rfl) ?_
                refine lv_iconst (v := 1) hx hb dX1_fits_57 (by decide) ?_
                refine lv_iadd hx hb dX1_fits_58 ?_
                refine lv_topi (fun i_13 ei_13 => ?_)
                have vi_13 : i_13.toInt = b.toInt + 1 := by have h9 := x_add ei_13 (by omega) (by omega); omega
                refine lv_goto (tgt := 63) hx hb dX1_fits_59 (by decide) ?_
                refine lv_iload_n hx hb dX1_fits_63 rfl (lv_at hl 1 rfl) ?_
                refine x_calliW (va_runV (As := [.int i_7, .int i_13, .int mo]) (rest := []) ⟨hx, hb, hml, hown, hts⟩ (g_fits6 l D y H.size ad (tI (tI σ 181 fg) 181 f_6) i_7 i_13 mo (by first | omega | decide) (by first | omega | decide) (by first | omega | decide) (by first | omega | decide) (by first | omega | decide) (show 0 ≤ ((σ.1 183)).toInt from by first | omega | decide) (show ((σ.1 183)).toInt ≤ 8 from by first | omega | decide)) (cwV 3 hts g_g_fits7_1 rfl rfl rfl (by decide +kernel) ⟨Nat.le_of_ble_eq_true rfl, Nat.le_of_ble_eq_true rfl⟩) (x_preV (q := (RX1, TX1, 3)) hK hP hD (ci := 0) (q0 := 0) rfl grw_o0) rfl rfl hl.1 rfl (lv_room (Nat.le_of_ble_eq_true rfl)) dX1_fits_64 ⟨Nat.le_of_ble_eq_true rfl, Nat.le_of_ble_eq_true rfl⟩) hP hD hS hA (fun r_14 u H locs hw hP hD hS => ?_)
                obtain ⟨f_15, rfl⟩ : ∃ z9, z9 = u := ⟨_, rfl⟩
                try dsimp only at hw
                have hP : va_P D vwCl (grw y ad (tI (tI (tI σ 181 fg) 181 f_6) 181 f_15)) H := hP
                have hD : va_D A (grw y ad (tI (tI (tI σ 181 fg) 181 f_6) 181 f_15)) := hD
                refine lv_if_eq (tgt := 72) hx hb dX1_fits_67 (by decide) (fun c_16 => ?_) (fun c_16 => ?_)
                · have kc_16 : r_14.toInt = 0 := by have h9 := c_16; simp only [ge_iff_le, gt_iff_lt, x_lt, x_le, x_eq, ne_eq, Int32.not_lt, Int32.not_le] at h9; simp only [Int32.reduceToInt] at h9; omega
                  obtain ⟨i_17, ei_17⟩ : ∃ z9 : Int32, z9 = i + 1 := ⟨_, rfl⟩
                  have vi_17 : i_17.toInt = i.toInt + 1 := by have h9 := x_add ei_17 (by omega) (by omega); omega
                  refine lv_iinc (v := i_17) (lv' := [(4, .int i_17), (3, .int mo), (2, .int b), (1, .int a), (0, .ref (ad 180))]) hx hb dX1_fits_72 hl (k := 0) rfl (by rw [ei_17]; rfl) (by decide) rfl (fun ls hl => ?_)
                  refine lv_goto (tgt := 13) hx hb dX1_fits_75 (by decide) ?_
                  have hP : va_P D vwCl (grw y ad (tI σ 181 f_15)) H := hP
                  have hD : va_D A (grw y ad (tI σ 181 f_15)) := hD
                  exact ih_loop i_17 f_15 H locs ls (by omega) (by omega) (by omega) hP hD hS (lv_sub hl [0, 1, 2, 3, 4] rfl)
                · have kc_16 : r_14.toInt ≠ 0 := by have h9 := c_16; simp only [ge_iff_le, gt_iff_lt, x_lt, x_le, x_eq, ne_eq, Int32.not_lt, Int32.not_le] at h9; simp only [Int32.reduceToInt] at h9; omega
                  refine lv_iconst (v := 1) hx hb dX1_fits_70 (by decide) ?_
                  have hP : va_P D vwCl (grw y ad (tI σ 181 f_15)) H := hP
                  have hD : va_D A (grw y ad (tI σ 181 f_15)) := hD
                  exact x_zretW (v := 1) (u := f_15) hx hb hr hQ rfl (by decide) hP hD hK hS dX1_fits_71 hlocks
            · have kc_5 : r_4.toInt = 0 := by have h9 := c_5; simp only [ge_iff_le, gt_iff_lt, x_lt, x_le, x_eq, ne_eq, Int32.not_lt, Int32.not_le] at h9; simp only [Int32.reduceToInt] at h9; omega
              refine lv_goto (tgt := 72) hx hb dX1_fits_35 (by decide) ?_
              obtain ⟨i_18, ei_18⟩ : ∃ z9 : Int32, z9 = i + 1 := ⟨_, rfl⟩
              have vi_18 : i_18.toInt = i.toInt + 1 := by have h9 := x_add ei_18 (by omega) (by omega); omega
              refine lv_iinc (v := i_18) (lv' := [(4, .int i_18), (3, .int mo), (2, .int b), (1, .int a), (0, .ref (ad 180))]) hx hb dX1_fits_72 hl (k := 0) rfl (by rw [ei_18]; rfl) (by decide) rfl (fun ls hl => ?_)
              refine lv_goto (tgt := 13) hx hb dX1_fits_75 (by decide) ?_
              exact ih_loop i_18 fg H locs ls (by omega) (by omega) (by omega) hP hD hS (lv_sub hl [0, 1, 2, 3, 4] rfl)
    exact loop 10 0 (σ.2.2.1 181) H locs ls (by decide) (by omega) (by omega) hP hD hS (lv_sub hl [0, 4, 3, 2, 1] rfl)
  · have kc_1 : a.toInt ≥ (σ.1 183).toInt := by have h9 := c_1; simp only [ge_iff_le, gt_iff_lt, x_lt, x_le, x_eq, ne_eq, Int32.not_lt, Int32.not_le] at h9; omega
    refine lv_iconst (v := 1) hx hb dX1_fits_8 (by decide) ?_
    have hP : va_P D vwCl (grw y ad (tI σ 181 (σ.2.2.1 181))) H := hP
    have hD : va_D A (grw y ad (tI σ 181 (σ.2.2.1 181))) := hD
    exact x_zretW (v := 1) (u := (σ.2.2.1 181)) hx hb hr hQ rfl (by decide) hP hD hK hS dX1_fits_9 hlocks

def v_g_fits8 : List Cond := .code yX1_fits cX1_fits 5 (some .boolean) :: ([.fieldLink RX1 20 "SlopeRunner$Grouping" "inputs" "I", .fieldLink RX1 11 "SlopeRunner$Grouping" "group" "[I"] ++ ((wsV RX1 28 RX1 yX1_isFree v_g_isFree) ++ ((wsV RX1 24 RX1 yX1_fits v_g_fits7) ++ wsX10)))
theorem g_g_fits8_0 : GoodIn v_g_fits8 (wsV RX1 28 RX1 yX1_isFree v_g_isFree) := goodIn_sub (fun w h => List.mem_cons_of_mem _ (List.mem_append_right _ (List.mem_append_left _ h))) (by decide +kernel)
theorem g_g_fits8_1 : GoodIn v_g_fits8 (wsV RX1 24 RX1 yX1_fits v_g_fits7) := goodIn_sub (fun w h => List.mem_cons_of_mem _ (List.mem_append_right _ (List.mem_append_right _ (List.mem_append_left _ h)))) (by decide +kernel)
set_option maxHeartbeats 4000000 in
set_option maxRecDepth 100000 in
theorem g_fits8 (l : Launch) (D : va_G) (y : Nat → ClassId) (sz : Nat) (ad : Nat → Nat) (σ : OS) (a b mo : Int32) (ha0 : 0 ≤ a.toInt) (ha1 : a.toInt ≤ 8) (hb0 : 0 ≤ b.toInt) (hb1 : b.toInt ≤ a.toInt) (hd : 8 - a.toInt ≤ 8) (hin0 : 0 ≤ (σ.1 183).toInt) (hin1 : (σ.1 183).toInt ≤ 8) : Met l yX1_fits v_g_fits8 ({ frames := 8, cells := 0, slots := 0, locals := 192 } : Room) (va_Pc [.ref (ad 180), .int a, .int b, .int mo] (xPre D (xT y) (grw y ad σ) sz)) (va_Qi (fun (r : Int32) (u : (Nat → Int32)) => r.toInt = 0 ∨ r.toInt = 1) (fun (u : (Nat → Int32)) => xB D (xT y) (va_A (grw y ad σ) sz) (grw y ad (tI σ 181 u))) (va_A (grw y ad σ) sz)) 0 0 (va_A (grw y ad σ) sz) := by
  refine x_meti (cc := cX1_fits) (maxL := 5) (by decide) rfl (Nat.le_of_ble_eq_true rfl) ?_
  intro p e s m below meth c A H locs Q hx hb hml hown hts hr hlocks hmn hA hP hK hD hS ls hl hQ
  have hl : lv_has ls 5 [(0, .ref (ad 180)), (1, .int a), (2, .int b), (3, .int mo)] := hl
  have fl20 := hts (.fieldLink RX1 20 "SlopeRunner$Grouping" "inputs" "I") (List.mem_of_getElem? (i := 1) rfl)
  have inX1 : ∀ w ∈ wsX10, w ∈ v_g_fits8 := (fun w h => List.mem_cons_of_mem _ (List.mem_append_right _ (List.mem_append_right _ (List.mem_append_right _ h))))
  have kk_0 : (0 : Int32).toInt = 0 := rfl
  have fl11 := hts (.fieldLink RX1 11 "SlopeRunner$Grouping" "group" "[I") (List.mem_of_getElem? (i := 2) rfl)
  have kk_1 : (1 : Int32).toInt = 1 := rfl
  refine lv_iload_n hx hb dX1_fits_0 rfl (lv_at hl 1 rfl) ?_
  refine lv_aload_n hx hb dX1_fits_1 rfl (lv_at hl 0 rfl) ?_
  refine va_get (D := D) (ci := 0) (v := .int (σ.1 183)) (C := RX1) (T := TX1) (N := 3) hx hb hts inX1 hown hK hP 0 grw_o0 rfl 2 (by decide) fl20 (fun _ h9 => h9) rfl dX1_fits_2 ?_
  refine lv_icmp_lt (tgt := 10) hx hb dX1_fits_5 (by decide) (fun c_1 => ?_) (fun c_1 => ?_)
  · have kc_1 : a.toInt < (σ.1 183).toInt := by have h9 := c_1; simp only [ge_iff_le, gt_iff_lt, x_lt, x_le, x_eq, ne_eq, Int32.not_lt, Int32.not_le] at h9; omega
    refine lv_iconst (v := 0) hx hb dX1_fits_10 (by decide) ?_
    refine lv_istore (lv' := [(4, .int 0), (0, .ref (ad 180)), (1, .int a), (2, .int b), (3, .int mo)]) hx hb dX1_fits_11 hl (by decide) rfl (fun ls hl => ?_)
    have l00 : (0 : Int32).toInt = 0 := rfl
    have hP : va_P D vwCl (grw y ad (tI σ 181 (σ.2.2.1 181))) H := hP
    have hD : va_D A (grw y ad (tI σ 181 (σ.2.2.1 181))) := hD
    have loop : ∀ (fu : Nat) (i : Int32) (fg : Nat → Int32) (H : Heap) (locs : List Loc) (ls : Array Slot), (0 ≤ i.toInt) → (i.toInt ≤ b.toInt + 1) → (b.toInt + 1 - i.toInt < (fu : Int)) → va_P D vwCl (grw y ad (tI σ 181 fg)) H → va_D A (grw y ad (tI σ 181 fg)) → va_S A s.heap H locs → lv_has ls 5 [(4, .int i), (3, .int mo), (2, .int b), (1, .int a), (0, .ref (ad 180))] → W p l e ({ frames := 8, cells := 0, slots := 0, locals := 192 } : Room) s m ([.ref (ad 180), .int a, .int b, .int mo] : List Value).toArray below meth c H locs 0 0 Q (F0 m 13 ls []) := by
      intro fu
      induction fu with
      | zero =>
        intro i fg H locs ls hi0 hi1 hm
        exact absurd hm (by omega)
      | succ fu ih_loop =>
        intro i fg H locs ls hi0 hi1 hm hP hD hS hl
        refine lv_iload hx hb dX1_fits_13 (lv_at hl 0 rfl) ?_
        refine lv_iload_n hx hb dX1_fits_15 rfl (lv_at hl 2 rfl) ?_
        refine lv_icmp_gt (tgt := 78) hx hb dX1_fits_16 (by decide) (fun c_2 => ?_) (fun c_2 => ?_)
        · have kc_2 : i.toInt > b.toInt := by have h9 := c_2; simp only [ge_iff_le, gt_iff_lt, x_lt, x_le, x_eq, ne_eq, Int32.not_lt, Int32.not_le] at h9; omega
          refine lv_iconst (v := 0) hx hb dX1_fits_78 (by decide) ?_
          exact x_zretW (v := 0) (u := fg) hx hb hr hQ rfl (by decide) hP hD hK hS dX1_fits_79 hlocks
        · have kc_2 : i.toInt ≤ b.toInt := by have h9 := c_2; simp only [ge_iff_le, gt_iff_lt, x_lt, x_le, x_eq, ne_eq, Int32.not_lt, Int32.not_le] at h9; omega
          refine lv_iload hx hb dX1_fits_19 (lv_at hl 0 rfl) ?_
          refine lv_iload_n hx hb dX1_fits_21 rfl (lv_at hl 1 rfl) ?_
          refine lv_icmp_ge (tgt := 78) hx hb dX1_fits_22 (by decide) (fun c_3 => ?_) (fun c_3 => ?_)
          · have kc_3 : i.toInt ≥ mo.toInt := by have h9 := c_3; simp only [ge_iff_le, gt_iff_lt, x_lt, x_le, x_eq, ne_eq, Int32.not_lt, Int32.not_le] at h9; omega
            refine lv_iconst (v := 0) hx hb dX1_fits_78 (by decide) ?_
            exact x_zretW (v := 0) (u := fg) hx hb hr hQ rfl (by decide) hP hD hK hS dX1_fits_79 hlocks
          · have kc_3 : i.toInt < mo.toInt := by have h9 := c_3; simp only [ge_iff_le, gt_iff_lt, x_lt, x_le, x_eq, ne_eq, Int32.not_lt, Int32.not_le] at h9; omega
            refine lv_aload_n hx hb dX1_fits_25 rfl (lv_at hl 4 rfl) ?_
            refine lv_iload_n hx hb dX1_fits_26 rfl (lv_at hl 3 rfl) ?_
            refine lv_iload hx hb dX1_fits_27 (lv_at hl 0 rfl) ?_
            refine x_calliW (va_runV (As := [.int a, .int i]) (rest := []) ⟨hx, hb, hml, hown, hts⟩ (g_isFree l D y H.size ad (tI σ 181 fg) a i (by first | omega | decide) (by first | omega | decide)) (cwV 2 hts g_g_fits8_0 rfl rfl rfl (by decide +kernel) ⟨Nat.le_of_ble_eq_true rfl, Nat.le_of_ble_eq_true rfl⟩) (x_preV (q := (RX1, TX1, 3)) hK hP hD (ci := 0) (q0 := 0) rfl grw_o0) rfl rfl hl.1 rfl (lv_room (Nat.le_of_ble_eq_true rfl)) dX1_fits_29 ⟨Nat.le_of_ble_eq_true rfl, Nat.le_of_ble_eq_true rfl⟩) hP hD hS hA (fun r_4 u H locs hw hP hD hS => ?_)
            try dsimp only at hw
            have hP : va_P D vwCl (grw y ad (tI σ 181 fg)) H := hP
            have hD : va_D A (grw y ad (tI σ 181 fg)) := hD
            refine lv_if_ne (tgt := 38) hx hb dX1_fits_32 (by decide) (fun c_5 => ?_) (fun c_5 => ?_)
            · have kc_5 : r_4.toInt ≠ 0 := by have h9 := c_5; simp only [ge_iff_le, gt_iff_lt, x_lt, x_le, x_eq, ne_eq, Int32.not_lt, Int32.not_le] at h9; simp only [Int32.reduceToInt] at h9; omega
              refine lv_aload_n hx hb dX1_fits_38 rfl (lv_at hl 4 rfl) ?_
              refine va_get (D := D) (ci := 0) (v := .ref (ad 181)) (C := RX1) (T := TX1) (N := 3) hx hb hts inX1 hown hK hP 0 grw_o0 rfl 0 (by decide) fl11 (fun _ h9 => h9) rfl dX1_fits_39 ?_
              refine lv_iload_n hx hb dX1_fits_42 rfl (lv_at hl 3 rfl) ?_
              refine lv_iload hx hb dX1_fits_43 (lv_at hl 0 rfl) ?_
              refine va_iast hx hb hK hP hD hS 1 2 grw_a1 rfl (x_in (by omega) (by omega)) dX1_fits_45 (fun H locs hP hD hS => ?_)
              obtain ⟨f_6, ef_6⟩ : ∃ z9 : Nat → Int32, z9 = (upd fg (Int32.toNatClampNeg a) i) := ⟨_, rfl⟩
              have hP : va_P D vwCl (grw y ad (tI (tI σ 181 fg) 181 f_6)) H := by rw [ef_6]; exact x_trP hP grw_s1
              have hD : va_D A (grw y ad (tI (tI σ 181 fg) 181 f_6)) := by rw [ef_6]; exact x_trD hD grw_s1
              refine lv_aload_n hx hb dX1_fits_46 rfl (lv_at hl 4 rfl) ?_
              refine lv_iload_n hx hb dX1_fits_47 rfl (lv_at hl 3 rfl) ?_
              refine lv_iconst (v := 1) hx hb dX1_fits_48 (by decide) ?_
              refine lv_iadd hx hb dX1_fits_49 ?_
              refine lv_topi (fun i_7 ei_7 => ?_)
              have vi_7 : i_7.toInt = a.toInt + 1 := by have h9 := x_add ei_7 (by omega) (by omega); omega
              refine lv_iload hx hb dX1_fits_50 (lv_at hl 0 rfl) ?_
              refine lv_iload_n hx hb dX1_fits_52 rfl (lv_at hl 2 rfl) ?_
              refine lv_icmp_ne (tgt := 62) hx hb dX1_fits_53 (by decide) (fun c_8 => ?_) (fun c_8 => ?_)
              · have kc_8 : i.toInt ≠ b.toInt := by have h9 := c_8; simp only [ge_iff_le, gt_iff_lt, x_lt, x_le, x_eq, ne_eq, Int32.not_lt, Int32.not_le] at h9; omega
                refine lv_iload_n hx hb dX1_fits_62 rfl (lv_at hl 2 rfl) ?_
                refine lv_iload_n hx hb dX1_fits_63 rfl (lv_at hl 1 rfl) ?_
                refine x_calliW (va_runV (As := [.int i_7, .int b, .int mo]) (rest := []) ⟨hx, hb, hml, hown, hts⟩ (g_fits7 l D y H.size ad (tI (tI σ 181 fg) 181 f_6) i_7 b mo (by first | omega | decide) (by first | omega | decide) (by first | omega | decide) (by first | omega | decide) (by first | omega | decide) (show 0 ≤ ((σ.1 183)).toInt from by first | omega | decide) (show ((σ.1 183)).toInt ≤ 8 from by first | omega | decide)) (cwV 3 hts g_g_fits8_1 rfl rfl rfl (by decide +kernel) ⟨Nat.le_of_ble_eq_true rfl, Nat.le_of_ble_eq_true rfl⟩) (x_preV (q := (RX1, TX1, 3)) hK hP hD (ci := 0) (q0 := 0) rfl grw_o0) rfl rfl hl.1 rfl (lv_room (Nat.le_of_ble_eq_true rfl)) dX1_fits_64 ⟨Nat.le_of_ble_eq_true rfl, Nat.le_of_ble_eq_true rfl⟩) hP hD hS hA (fun r_9 u H locs hw hP hD hS => ?_)
                obtain ⟨f_10, rfl⟩ : ∃ z9, z9 = u := ⟨_, rfl⟩
                try dsimp only at hw
                have hP : va_P D vwCl (grw y ad (tI (tI (tI σ 181 fg) 181 f_6) 181 f_10)) H := hP
                have hD : va_D A (grw y ad (tI (tI (tI σ 181 fg) 181 f_6) 181 f_10)) := hD
                refine lv_if_eq (tgt := 72) hx hb dX1_fits_67 (by decide) (fun c_11 => ?_) (fun c_11 => ?_)
                · have kc_11 : r_9.toInt = 0 := by have h9 := c_11; simp only [ge_iff_le, gt_iff_lt, x_lt, x_le, x_eq, ne_eq, Int32.not_lt, Int32.not_le] at h9; simp only [Int32.reduceToInt] at h9; omega
                  obtain ⟨i_12, ei_12⟩ : ∃ z9 : Int32, z9 = i + 1 := ⟨_, rfl⟩
                  have vi_12 : i_12.toInt = i.toInt + 1 := by have h9 := x_add ei_12 (by omega) (by omega); omega
                  refine lv_iinc (v := i_12) (lv' := [(4, .int i_12), (3, .int mo), (2, .int b), (1, .int a), (0, .ref (ad 180))]) hx hb dX1_fits_72 hl (k := 0) rfl (by rw [ei_12]; rfl) (by decide) rfl (fun ls hl => ?_)
                  refine lv_goto (tgt := 13) hx hb dX1_fits_75 (by decide) ?_
                  have hP : va_P D vwCl (grw y ad (tI σ 181 f_10)) H := hP
                  have hD : va_D A (grw y ad (tI σ 181 f_10)) := hD
                  exact ih_loop i_12 f_10 H locs ls (by omega) (by omega) (by omega) hP hD hS (lv_sub hl [0, 1, 2, 3, 4] rfl)
                · have kc_11 : r_9.toInt ≠ 0 := by have h9 := c_11; simp only [ge_iff_le, gt_iff_lt, x_lt, x_le, x_eq, ne_eq, Int32.not_lt, Int32.not_le] at h9; simp only [Int32.reduceToInt] at h9; omega
                  refine lv_iconst (v := 1) hx hb dX1_fits_70 (by decide) ?_
                  have hP : va_P D vwCl (grw y ad (tI σ 181 f_10)) H := hP
                  have hD : va_D A (grw y ad (tI σ 181 f_10)) := hD
                  exact x_zretW (v := 1) (u := f_10) hx hb hr hQ rfl (by decide) hP hD hK hS dX1_fits_71 hlocks
              · have kc_8 : i.toInt = b.toInt := by have h9 := c_8; simp only [ge_iff_le, gt_iff_lt, x_lt, x_le, x_eq, ne_eq, Int32.not_lt, Int32.not_le] at h9; omega
                refine lv_iload_n hx hb dX1_fits_56 rfl (lv_at hl 2 rfl) ?_
                refine lv_iconst (v := 1) hx hb dX1_fits_57 (by decide) ?_
                refine lv_iadd hx hb dX1_fits_58 ?_
                refine lv_topi (fun i_13 ei_13 => ?_)
                have vi_13 : i_13.toInt = b.toInt + 1 := by have h9 := x_add ei_13 (by omega) (by omega); omega
                refine lv_goto (tgt := 63) hx hb dX1_fits_59 (by decide) ?_
                refine lv_iload_n hx hb dX1_fits_63 rfl (lv_at hl 1 rfl) ?_
                refine x_calliW (va_runV (As := [.int i_7, .int i_13, .int mo]) (rest := []) ⟨hx, hb, hml, hown, hts⟩ (g_fits7 l D y H.size ad (tI (tI σ 181 fg) 181 f_6) i_7 i_13 mo (by first | omega | decide) (by first | omega | decide) (by first | omega | decide) (by first | omega | decide) (by first | omega | decide) (show 0 ≤ ((σ.1 183)).toInt from by first | omega | decide) (show ((σ.1 183)).toInt ≤ 8 from by first | omega | decide)) (cwV 3 hts g_g_fits8_1 rfl rfl rfl (by decide +kernel) ⟨Nat.le_of_ble_eq_true rfl, Nat.le_of_ble_eq_true rfl⟩) (x_preV (q := (RX1, TX1, 3)) hK hP hD (ci := 0) (q0 := 0) rfl grw_o0) rfl rfl hl.1 rfl (lv_room (Nat.le_of_ble_eq_true rfl)) dX1_fits_64 ⟨Nat.le_of_ble_eq_true rfl, Nat.le_of_ble_eq_true rfl⟩) hP hD hS hA (fun r_14 u H locs hw hP hD hS => ?_)
                obtain ⟨f_15, rfl⟩ : ∃ z9, z9 = u := ⟨_, rfl⟩
                try dsimp only at hw
                have hP : va_P D vwCl (grw y ad (tI (tI (tI σ 181 fg) 181 f_6) 181 f_15)) H := hP
                have hD : va_D A (grw y ad (tI (tI (tI σ 181 fg) 181 f_6) 181 f_15)) := hD
                refine lv_if_eq (tgt := 72) hx hb dX1_fits_67 (by decide) (fun c_16 => ?_) (fun c_16 => ?_)
                · have kc_16 : r_14.toInt = 0 := by have h9 := c_16; simp only [ge_iff_le, gt_iff_lt, x_lt, x_le, x_eq, ne_eq, Int32.not_lt, Int32.not_le] at h9; simp only [Int32.reduceToInt] at h9; omega
                  obtain ⟨i_17, ei_17⟩ : ∃ z9 : Int32, z9 = i + 1 := ⟨_, rfl⟩
                  have vi_17 : i_17.toInt = i.toInt + 1 := by have h9 := x_add ei_17 (by omega) (by omega); omega
                  refine lv_iinc (v := i_17) (lv' := [(4, .int i_17), (3, .int mo), (2, .int b), (1, .int a), (0, .ref (ad 180))]) hx hb dX1_fits_72 hl (k := 0) rfl (by rw [ei_17]; rfl) (by decide) rfl (fun ls hl => ?_)
                  refine lv_goto (tgt := 13) hx hb dX1_fits_75 (by decide) ?_
                  have hP : va_P D vwCl (grw y ad (tI σ 181 f_15)) H := hP
                  have hD : va_D A (grw y ad (tI σ 181 f_15)) := hD
                  exact ih_loop i_17 f_15 H locs ls (by omega) (by omega) (by omega) hP hD hS (lv_sub hl [0, 1, 2, 3, 4] rfl)
                · have kc_16 : r_14.toInt ≠ 0 := by have h9 := c_16; simp only [ge_iff_le, gt_iff_lt, x_lt, x_le, x_eq, ne_eq, Int32.not_lt, Int32.not_le] at h9; simp only [Int32.reduceToInt] at h9; omega
                  refine lv_iconst (v := 1) hx hb dX1_fits_70 (by decide) ?_
                  have hP : va_P D vwCl (grw y ad (tI σ 181 f_15)) H := hP
                  have hD : va_D A (grw y ad (tI σ 181 f_15)) := hD
                  exact x_zretW (v := 1) (u := f_15) hx hb hr hQ rfl (by decide) hP hD hK hS dX1_fits_71 hlocks
            · have kc_5 : r_4.toInt = 0 := by have h9 := c_5; simp only [ge_iff_le, gt_iff_lt, x_lt, x_le, x_eq, ne_eq, Int32.not_lt, Int32.not_le] at h9; simp only [Int32.reduceToInt] at h9; omega
              refine lv_goto (tgt := 72) hx hb dX1_fits_35 (by decide) ?_
              obtain ⟨i_18, ei_18⟩ : ∃ z9 : Int32, z9 = i + 1 := ⟨_, rfl⟩
              have vi_18 : i_18.toInt = i.toInt + 1 := by have h9 := x_add ei_18 (by omega) (by omega); omega
              refine lv_iinc (v := i_18) (lv' := [(4, .int i_18), (3, .int mo), (2, .int b), (1, .int a), (0, .ref (ad 180))]) hx hb dX1_fits_72 hl (k := 0) rfl (by rw [ei_18]; rfl) (by decide) rfl (fun ls hl => ?_)
              refine lv_goto (tgt := 13) hx hb dX1_fits_75 (by decide) ?_
              exact ih_loop i_18 fg H locs ls (by omega) (by omega) (by omega) hP hD hS (lv_sub hl [0, 1, 2, 3, 4] rfl)
    exact loop 10 0 (σ.2.2.1 181) H locs ls (by decide) (by omega) (by omega) hP hD hS (lv_sub hl [0, 4, 3, 2, 1] rfl)
  · have kc_1 : a.toInt ≥ (σ.1 183).toInt := by have h9 := c_1; simp only [ge_iff_le, gt_iff_lt, x_lt, x_le, x_eq, ne_eq, Int32.not_lt, Int32.not_le] at h9; omega
    refine lv_iconst (v := 1) hx hb dX1_fits_8 (by decide) ?_
    have hP : va_P D vwCl (grw y ad (tI σ 181 (σ.2.2.1 181))) H := hP
    have hD : va_D A (grw y ad (tI σ 181 (σ.2.2.1 181))) := hD
    exact x_zretW (v := 1) (u := (σ.2.2.1 181)) hx hb hr hQ rfl (by decide) hP hD hK hS dX1_fits_9 hlocks

def v_g_settle : List Cond := .code yX1_settle cX1_settle 2 (some .int) :: ([.fieldLink RX1 20 "SlopeRunner$Grouping" "inputs" "I", .fieldLink RX1 11 "SlopeRunner$Grouping" "group" "[I"] ++ ((wsV RX1 24 RX1 yX1_fits v_g_fits8) ++ wsX10))
theorem g_g_settle_0 : GoodIn v_g_settle (wsV RX1 24 RX1 yX1_fits v_g_fits8) := goodIn_sub (fun w h => List.mem_cons_of_mem _ (List.mem_append_right _ (List.mem_append_left _ h))) (by decide +kernel)
set_option maxHeartbeats 4000000 in
set_option maxRecDepth 100000 in
theorem g_settle (l : Launch) (D : va_G) (y : Nat → ClassId) (sz : Nat) (ad : Nat → Nat) (σ : OS) (hin0 : 0 ≤ (σ.1 183).toInt) (hin1 : (σ.1 183).toInt ≤ 8) : Met l yX1_settle v_g_settle ({ frames := 9, cells := 0, slots := 0, locals := 216 } : Room) (va_Pc [.ref (ad 180)] (xPre D (xT y) (grw y ad σ) sz)) (va_Qi (fun (r : Int32) (u : (Nat → Int32)) => True) (fun (u : (Nat → Int32)) => xB D (xT y) (va_A (grw y ad σ) sz) (grw y ad (tI σ 181 u))) (va_A (grw y ad σ) sz)) 0 0 (va_A (grw y ad σ) sz) := by
  refine x_meti (cc := cX1_settle) (maxL := 2) (by decide) rfl (Nat.le_of_ble_eq_true rfl) ?_
  intro p e s m below meth c A H locs Q hx hb hml hown hts hr hlocks hmn hA hP hK hD hS ls hl hQ
  have hl : lv_has ls 2 [(0, .ref (ad 180))] := hl
  have fl20 := hts (.fieldLink RX1 20 "SlopeRunner$Grouping" "inputs" "I") (List.mem_of_getElem? (i := 1) rfl)
  have inX1 : ∀ w ∈ wsX10, w ∈ v_g_settle := (fun w h => List.mem_cons_of_mem _ (List.mem_append_right _ (List.mem_append_right _ h)))
  have fl11 := hts (.fieldLink RX1 11 "SlopeRunner$Grouping" "group" "[I") (List.mem_of_getElem? (i := 2) rfl)
  have kk_1 : (1 : Int32).toInt = 1 := rfl
  have kk_0 : (0 : Int32).toInt = 0 := rfl
  refine lv_iconst (v := 0) hx hb dX1_settle_0 (by decide) ?_
  refine lv_istore_n (lv' := [(1, .int 0), (0, .ref (ad 180))]) hx hb dX1_settle_1 rfl hl (by decide) rfl (fun ls hl => ?_)
  have l00 : (0 : Int32).toInt = 0 := rfl
  have hP : va_P D vwCl (grw y ad (tI σ 181 (σ.2.2.1 181))) H := hP
  have hD : va_D A (grw y ad (tI σ 181 (σ.2.2.1 181))) := hD
  have loop : ∀ (fu : Nat) (i : Int32) (fa : Nat → Int32) (H : Heap) (locs : List Loc) (ls : Array Slot), (0 ≤ i.toInt) → (i.toInt ≤ (σ.1 183).toInt) → ((σ.1 183).toInt - i.toInt < (fu : Int)) → va_P D vwCl (grw y ad (tI σ 181 fa)) H → va_D A (grw y ad (tI σ 181 fa)) → va_S A s.heap H locs → lv_has ls 2 [(1, .int i), (0, .ref (ad 180))] → W p l e ({ frames := 9, cells := 0, slots := 0, locals := 216 } : Room) s m ([.ref (ad 180)] : List Value).toArray below meth c H locs 0 0 Q (F0 m 2 ls []) := by
    intro fu
    induction fu with
    | zero =>
      intro i fa H locs ls hi0 hi1 hm
      exact absurd hm (by omega)
    | succ fu ih_loop =>
      intro i fa H locs ls hi0 hi1 hm hP hD hS hl
      refine lv_iload_n hx hb dX1_settle_2 rfl (lv_at hl 0 rfl) ?_
      refine lv_aload_n hx hb dX1_settle_3 rfl (lv_at hl 1 rfl) ?_
      refine va_get (D := D) (ci := 0) (v := .int (σ.1 183)) (C := RX1) (T := TX1) (N := 3) hx hb hts inX1 hown hK hP 0 grw_o0 rfl 2 (by decide) fl20 (fun _ h9 => h9) rfl dX1_settle_4 ?_
      refine lv_icmp_ge (tgt := 28) hx hb dX1_settle_7 (by decide) (fun c_1 => ?_) (fun c_1 => ?_)
      · have kc_1 : i.toInt ≥ (σ.1 183).toInt := by have h9 := c_1; simp only [ge_iff_le, gt_iff_lt, x_lt, x_le, x_eq, ne_eq, Int32.not_lt, Int32.not_le] at h9; omega
        refine lv_iconst (v := 0) hx hb dX1_settle_28 (by decide) ?_
        refine lv_istore_n (lv' := [(1, .int 0), (0, .ref (ad 180))]) hx hb dX1_settle_29 rfl hl (by decide) rfl (fun ls hl => ?_)
        have l00 : (0 : Int32).toInt = 0 := rfl
        have loop2 : ∀ (fu : Nat) (j : Int32) (fb : Nat → Int32) (H : Heap) (locs : List Loc) (ls : Array Slot), (0 ≤ j.toInt) → (j.toInt ≤ (σ.1 183).toInt) → ((σ.1 183).toInt - j.toInt < (fu : Int)) → va_P D vwCl (grw y ad (tI σ 181 fb)) H → va_D A (grw y ad (tI σ 181 fb)) → va_S A s.heap H locs → lv_has ls 2 [(1, .int j), (0, .ref (ad 180))] → W p l e ({ frames := 9, cells := 0, slots := 0, locals := 216 } : Room) s m ([.ref (ad 180)] : List Value).toArray below meth c H locs 0 0 Q (F0 m 30 ls []) := by
          intro fu
          induction fu with
          | zero =>
            intro j fb H locs ls hj0 hj1 hm
            exact absurd hm (by omega)
          | succ fu ih_loop2 =>
            intro j fb H locs ls hj0 hj1 hm hP hD hS hl
            refine lv_iload_n hx hb dX1_settle_30 rfl (lv_at hl 0 rfl) ?_
            refine lv_aload_n hx hb dX1_settle_31 rfl (lv_at hl 1 rfl) ?_
            refine va_get (D := D) (ci := 0) (v := .int (σ.1 183)) (C := RX1) (T := TX1) (N := 3) hx hb hts inX1 hown hK hP 0 grw_o0 rfl 2 (by decide) fl20 (fun _ h9 => h9) rfl dX1_settle_32 ?_
            refine lv_icmp_ge (tgt := 51) hx hb dX1_settle_35 (by decide) (fun c_2 => ?_) (fun c_2 => ?_)
            · have kc_2 : j.toInt ≥ (σ.1 183).toInt := by have h9 := c_2; simp only [ge_iff_le, gt_iff_lt, x_lt, x_le, x_eq, ne_eq, Int32.not_lt, Int32.not_le] at h9; omega
              refine lv_aload_n hx hb dX1_settle_51 rfl (lv_at hl 1 rfl) ?_
              refine va_get (D := D) (ci := 0) (v := .int (σ.1 183)) (C := RX1) (T := TX1) (N := 3) hx hb hts inX1 hown hK hP 0 grw_o0 rfl 2 (by decide) fl20 (fun _ h9 => h9) rfl dX1_settle_52 ?_
              exact x_iretW (v := (σ.1 183)) (u := fb) hx hb hr hQ trivial hP hD hK hS dX1_settle_55 hlocks
            · have kc_2 : j.toInt < (σ.1 183).toInt := by have h9 := c_2; simp only [ge_iff_le, gt_iff_lt, x_lt, x_le, x_eq, ne_eq, Int32.not_lt, Int32.not_le] at h9; omega
              refine lv_aload_n hx hb dX1_settle_38 rfl (lv_at hl 1 rfl) ?_
              refine va_get (D := D) (ci := 0) (v := .ref (ad 181)) (C := RX1) (T := TX1) (N := 3) hx hb hts inX1 hown hK hP 0 grw_o0 rfl 0 (by decide) fl11 (fun _ h9 => h9) rfl dX1_settle_39 ?_
              refine lv_iload_n hx hb dX1_settle_42 rfl (lv_at hl 0 rfl) ?_
              refine lv_iload_n hx hb dX1_settle_43 rfl (lv_at hl 0 rfl) ?_
              refine va_iast hx hb hK hP hD hS 1 2 grw_a1 rfl (x_in (by omega) (by omega)) dX1_settle_44 (fun H locs hP hD hS => ?_)
              obtain ⟨f_3, ef_3⟩ : ∃ z9 : Nat → Int32, z9 = (upd fb (Int32.toNatClampNeg j) j) := ⟨_, rfl⟩
              have hP : va_P D vwCl (grw y ad (tI (tI σ 181 fb) 181 f_3)) H := by rw [ef_3]; exact x_trP hP grw_s1
              have hD : va_D A (grw y ad (tI (tI σ 181 fb) 181 f_3)) := by rw [ef_3]; exact x_trD hD grw_s1
              obtain ⟨i_4, ei_4⟩ : ∃ z9 : Int32, z9 = j + 1 := ⟨_, rfl⟩
              have vi_4 : i_4.toInt = j.toInt + 1 := by have h9 := x_add ei_4 (by omega) (by omega); omega
              refine lv_iinc (v := i_4) (lv' := [(1, .int i_4), (0, .ref (ad 180))]) hx hb dX1_settle_45 hl (k := 0) rfl (by rw [ei_4]; rfl) (by decide) rfl (fun ls hl => ?_)
              refine lv_goto (tgt := 30) hx hb dX1_settle_48 (by decide) ?_
              have hP : va_P D vwCl (grw y ad (tI σ 181 f_3)) H := hP
              have hD : va_D A (grw y ad (tI σ 181 f_3)) := hD
              exact ih_loop2 i_4 f_3 H locs ls (by omega) (by omega) (by omega) hP hD hS (lv_sub hl [0, 1] rfl)
        exact loop2 9 0 fa H locs ls (by decide) (by first | decide | omega) (by omega) hP hD hS (lv_sub hl [0, 1] rfl)
      · have kc_1 : i.toInt < (σ.1 183).toInt := by have h9 := c_1; simp only [ge_iff_le, gt_iff_lt, x_lt, x_le, x_eq, ne_eq, Int32.not_lt, Int32.not_le] at h9; omega
        refine lv_aload_n hx hb dX1_settle_10 rfl (lv_at hl 1 rfl) ?_
        refine lv_iconst (v := 0) hx hb dX1_settle_11 (by decide) ?_
        refine lv_iconst (v := 0) hx hb dX1_settle_12 (by decide) ?_
        refine lv_iload_n hx hb dX1_settle_13 rfl (lv_at hl 0 rfl) ?_
        refine x_calliW (va_runV (As := [.int 0, .int 0, .int i]) (rest := []) ⟨hx, hb, hml, hown, hts⟩ (g_fits8 l D y H.size ad (tI σ 181 fa) 0 0 i (by first | omega | decide) (by first | omega | decide) (by first | omega | decide) (by first | omega | decide) (by first | omega | decide) (show 0 ≤ ((σ.1 183)).toInt from by first | omega | decide) (show ((σ.1 183)).toInt ≤ 8 from by first | omega | decide)) (cwV 3 hts g_g_settle_0 rfl rfl rfl (by decide +kernel) ⟨Nat.le_of_ble_eq_true rfl, Nat.le_of_ble_eq_true rfl⟩) (x_preV (q := (RX1, TX1, 3)) hK hP hD (ci := 0) (q0 := 0) rfl grw_o0) rfl rfl hl.1 rfl (lv_room (Nat.le_of_ble_eq_true rfl)) dX1_settle_14 ⟨Nat.le_of_ble_eq_true rfl, Nat.le_of_ble_eq_true rfl⟩) hP hD hS hA (fun r_5 u H locs hw hP hD hS => ?_)
        obtain ⟨f_6, rfl⟩ : ∃ z9, z9 = u := ⟨_, rfl⟩
        try dsimp only at hw
        have hP : va_P D vwCl (grw y ad (tI (tI σ 181 fa) 181 f_6)) H := hP
        have hD : va_D A (grw y ad (tI (tI σ 181 fa) 181 f_6)) := hD
        refine lv_if_eq (tgt := 22) hx hb dX1_settle_17 (by decide) (fun c_7 => ?_) (fun c_7 => ?_)
        · have kc_7 : r_5.toInt = 0 := by have h9 := c_7; simp only [ge_iff_le, gt_iff_lt, x_lt, x_le, x_eq, ne_eq, Int32.not_lt, Int32.not_le] at h9; simp only [Int32.reduceToInt] at h9; omega
          obtain ⟨i_8, ei_8⟩ : ∃ z9 : Int32, z9 = i + 1 := ⟨_, rfl⟩
          have vi_8 : i_8.toInt = i.toInt + 1 := by have h9 := x_add ei_8 (by omega) (by omega); omega
          refine lv_iinc (v := i_8) (lv' := [(1, .int i_8), (0, .ref (ad 180))]) hx hb dX1_settle_22 hl (k := 0) rfl (by rw [ei_8]; rfl) (by decide) rfl (fun ls hl => ?_)
          refine lv_goto (tgt := 2) hx hb dX1_settle_25 (by decide) ?_
          have hP : va_P D vwCl (grw y ad (tI σ 181 f_6)) H := hP
          have hD : va_D A (grw y ad (tI σ 181 f_6)) := hD
          exact ih_loop i_8 f_6 H locs ls (by omega) (by omega) (by omega) hP hD hS (lv_sub hl [0, 1] rfl)
        · have kc_7 : r_5.toInt ≠ 0 := by have h9 := c_7; simp only [ge_iff_le, gt_iff_lt, x_lt, x_le, x_eq, ne_eq, Int32.not_lt, Int32.not_le] at h9; simp only [Int32.reduceToInt] at h9; omega
          refine lv_iload_n hx hb dX1_settle_20 rfl (lv_at hl 0 rfl) ?_
          have hP : va_P D vwCl (grw y ad (tI σ 181 f_6)) H := hP
          have hD : va_D A (grw y ad (tI σ 181 f_6)) := hD
          exact x_iretW (v := i) (u := f_6) hx hb hr hQ trivial hP hD hK hS dX1_settle_21 hlocks
  exact loop 9 0 (σ.2.2.1 181) H locs ls (by decide) (by first | decide | omega) (by omega) hP hD hS (lv_sub hl [0, 1] rfl)

