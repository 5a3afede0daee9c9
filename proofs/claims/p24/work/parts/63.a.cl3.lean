abbrev mcw_f0 (y : Nat → ClassId) (ad : Nat → Nat) (σ : OS) : List Value := [.ref (ad 111), .ref (ad 112), .ref (ad 80), .ref (ad 130), .int (σ.1 115), .int (σ.1 116)]
abbrev mcw_f1 (y : Nat → ClassId) (ad : Nat → Nat) (σ : OS) : List Value := [.int (σ.1 81), .int (σ.1 82), .int (σ.1 83), .int (σ.1 84), .int (σ.1 85), .int (σ.1 86), .ref (ad 87), .int (σ.1 88), .ref (ad 89), .ref (ad 90), .ref (ad 91), .ref (ad 92), .ref (ad 93)]
abbrev mcw_f2 (y : Nat → ClassId) (ad : Nat → Nat) (σ : OS) : List Value := [.ref (ad 131), .ref (ad 132), .ref (ad 133), .ref (ad 134), .ref (ad 135), .int (σ.1 136), .int (σ.1 137), .int (σ.1 138), .int (σ.1 139), .int (σ.1 140), .int (σ.1 141), .int (σ.1 142), .long (σ.2.1 143)]
def mcw (y : Nat → ClassId) (ad : Nat → Nat) (σ : OS) : va_W := [((ad 110), .inr (3, mcw_f0 y ad σ)), ((ad 80), .inr (5, mcw_f1 y ad σ)), ((ad 130), .inr (7, mcw_f2 y ad σ)), (ad 111, .inl (y 2, 64, .inl (σ.2.2.1 111))), (ad 112, .inl (y 2, 84, .inl (σ.2.2.1 112))), (ad 87, .inl (y 2, 4, .inl (σ.2.2.1 87))), (ad 89, .inl (y 3, 24, .inr (.inl (σ.2.2.2 89)))), (ad 90, .inl (y 2, 24, .inl (σ.2.2.1 90))), (ad 91, .inl (y 2, 350, .inl (σ.2.2.1 91))), (ad 92, .inl (y 2, 700, .inl (σ.2.2.1 92))), (ad 93, .inl (y 2, 700, .inl (σ.2.2.1 93))), (ad 131, .inl (y 3, 1359, .inr (.inl (σ.2.2.2 131)))), (ad 132, .inl (y 2, 1359, .inl (σ.2.2.1 132))), (ad 133, .inl (y 2, 1359, .inl (σ.2.2.1 133))), (ad 134, .inl (y 2, 1359, .inl (σ.2.2.1 134))), (ad 135, .inl (y 2, 12, .inl (σ.2.2.1 135)))]
theorem mcw_o0 {y : Nat → ClassId} {ad : Nat → Nat} {σ : OS} : (mcw y ad σ)[0]? = some ((ad 110), .inr (3, mcw_f0 y ad σ)) := rfl
theorem mcw_p0_4 {y : Nat → ClassId} {ad : Nat → Nat} {σ : OS} {v : Int32} : (mcw y ad σ).set 0 ((ad 110), .inr (3, (mcw_f0 y ad σ).set 4 (.int v))) = mcw y ad (sI σ 115 v) := rfl
theorem mcw_p0_5 {y : Nat → ClassId} {ad : Nat → Nat} {σ : OS} {v : Int32} : (mcw y ad σ).set 0 ((ad 110), .inr (3, (mcw_f0 y ad σ).set 5 (.int v))) = mcw y ad (sI σ 116 v) := rfl
theorem mcw_o1 {y : Nat → ClassId} {ad : Nat → Nat} {σ : OS} : (mcw y ad σ)[1]? = some ((ad 80), .inr (5, mcw_f1 y ad σ)) := rfl
theorem mcw_p1_0 {y : Nat → ClassId} {ad : Nat → Nat} {σ : OS} {v : Int32} : (mcw y ad σ).set 1 ((ad 80), .inr (5, (mcw_f1 y ad σ).set 0 (.int v))) = mcw y ad (sI σ 81 v) := rfl
theorem mcw_p1_1 {y : Nat → ClassId} {ad : Nat → Nat} {σ : OS} {v : Int32} : (mcw y ad σ).set 1 ((ad 80), .inr (5, (mcw_f1 y ad σ).set 1 (.int v))) = mcw y ad (sI σ 82 v) := rfl
theorem mcw_p1_2 {y : Nat → ClassId} {ad : Nat → Nat} {σ : OS} {v : Int32} : (mcw y ad σ).set 1 ((ad 80), .inr (5, (mcw_f1 y ad σ).set 2 (.int v))) = mcw y ad (sI σ 83 v) := rfl
theorem mcw_p1_3 {y : Nat → ClassId} {ad : Nat → Nat} {σ : OS} {v : Int32} : (mcw y ad σ).set 1 ((ad 80), .inr (5, (mcw_f1 y ad σ).set 3 (.int v))) = mcw y ad (sI σ 84 v) := rfl
theorem mcw_p1_4 {y : Nat → ClassId} {ad : Nat → Nat} {σ : OS} {v : Int32} : (mcw y ad σ).set 1 ((ad 80), .inr (5, (mcw_f1 y ad σ).set 4 (.int v))) = mcw y ad (sI σ 85 v) := rfl
theorem mcw_p1_5 {y : Nat → ClassId} {ad : Nat → Nat} {σ : OS} {v : Int32} : (mcw y ad σ).set 1 ((ad 80), .inr (5, (mcw_f1 y ad σ).set 5 (.int v))) = mcw y ad (sI σ 86 v) := rfl
theorem mcw_p1_7 {y : Nat → ClassId} {ad : Nat → Nat} {σ : OS} {v : Int32} : (mcw y ad σ).set 1 ((ad 80), .inr (5, (mcw_f1 y ad σ).set 7 (.int v))) = mcw y ad (sI σ 88 v) := rfl
theorem mcw_o2 {y : Nat → ClassId} {ad : Nat → Nat} {σ : OS} : (mcw y ad σ)[2]? = some ((ad 130), .inr (7, mcw_f2 y ad σ)) := rfl
theorem mcw_p2_5 {y : Nat → ClassId} {ad : Nat → Nat} {σ : OS} {v : Int32} : (mcw y ad σ).set 2 ((ad 130), .inr (7, (mcw_f2 y ad σ).set 5 (.int v))) = mcw y ad (sI σ 136 v) := rfl
theorem mcw_p2_6 {y : Nat → ClassId} {ad : Nat → Nat} {σ : OS} {v : Int32} : (mcw y ad σ).set 2 ((ad 130), .inr (7, (mcw_f2 y ad σ).set 6 (.int v))) = mcw y ad (sI σ 137 v) := rfl
theorem mcw_p2_7 {y : Nat → ClassId} {ad : Nat → Nat} {σ : OS} {v : Int32} : (mcw y ad σ).set 2 ((ad 130), .inr (7, (mcw_f2 y ad σ).set 7 (.int v))) = mcw y ad (sI σ 138 v) := rfl
theorem mcw_p2_8 {y : Nat → ClassId} {ad : Nat → Nat} {σ : OS} {v : Int32} : (mcw y ad σ).set 2 ((ad 130), .inr (7, (mcw_f2 y ad σ).set 8 (.int v))) = mcw y ad (sI σ 139 v) := rfl
theorem mcw_p2_9 {y : Nat → ClassId} {ad : Nat → Nat} {σ : OS} {v : Int32} : (mcw y ad σ).set 2 ((ad 130), .inr (7, (mcw_f2 y ad σ).set 9 (.int v))) = mcw y ad (sI σ 140 v) := rfl
theorem mcw_p2_10 {y : Nat → ClassId} {ad : Nat → Nat} {σ : OS} {v : Int32} : (mcw y ad σ).set 2 ((ad 130), .inr (7, (mcw_f2 y ad σ).set 10 (.int v))) = mcw y ad (sI σ 141 v) := rfl
theorem mcw_p2_11 {y : Nat → ClassId} {ad : Nat → Nat} {σ : OS} {v : Int32} : (mcw y ad σ).set 2 ((ad 130), .inr (7, (mcw_f2 y ad σ).set 11 (.int v))) = mcw y ad (sI σ 142 v) := rfl
theorem mcw_p2_12 {y : Nat → ClassId} {ad : Nat → Nat} {σ : OS} {v : Int64} : (mcw y ad σ).set 2 ((ad 130), .inr (7, (mcw_f2 y ad σ).set 12 (.long v))) = mcw y ad (sJ σ 143 v) := rfl
theorem mcw_a3 {y : Nat → ClassId} {ad : Nat → Nat} {σ : OS} : (mcw y ad σ)[3]? = some (ad 111, .inl (y 2, 64, .inl (σ.2.2.1 111))) := rfl
theorem mcw_s3 {y : Nat → ClassId} {ad : Nat → Nat} {σ : OS} {g : Nat → Int32} : (mcw y ad σ).set 3 (ad 111, .inl (y 2, 64, .inl g)) = mcw y ad (tI σ 111 g) := rfl
theorem mcw_a4 {y : Nat → ClassId} {ad : Nat → Nat} {σ : OS} : (mcw y ad σ)[4]? = some (ad 112, .inl (y 2, 84, .inl (σ.2.2.1 112))) := rfl
theorem mcw_s4 {y : Nat → ClassId} {ad : Nat → Nat} {σ : OS} {g : Nat → Int32} : (mcw y ad σ).set 4 (ad 112, .inl (y 2, 84, .inl g)) = mcw y ad (tI σ 112 g) := rfl
theorem mcw_a5 {y : Nat → ClassId} {ad : Nat → Nat} {σ : OS} : (mcw y ad σ)[5]? = some (ad 87, .inl (y 2, 4, .inl (σ.2.2.1 87))) := rfl
theorem mcw_s5 {y : Nat → ClassId} {ad : Nat → Nat} {σ : OS} {g : Nat → Int32} : (mcw y ad σ).set 5 (ad 87, .inl (y 2, 4, .inl g)) = mcw y ad (tI σ 87 g) := rfl
theorem mcw_a6 {y : Nat → ClassId} {ad : Nat → Nat} {σ : OS} : (mcw y ad σ)[6]? = some (ad 89, .inl (y 3, 24, .inr (.inl (σ.2.2.2 89)))) := rfl
theorem mcw_s6 {y : Nat → ClassId} {ad : Nat → Nat} {σ : OS} {g : Nat → Int64} : (mcw y ad σ).set 6 (ad 89, .inl (y 3, 24, .inr (.inl g))) = mcw y ad (tJ σ 89 g) := rfl
theorem mcw_a7 {y : Nat → ClassId} {ad : Nat → Nat} {σ : OS} : (mcw y ad σ)[7]? = some (ad 90, .inl (y 2, 24, .inl (σ.2.2.1 90))) := rfl
theorem mcw_s7 {y : Nat → ClassId} {ad : Nat → Nat} {σ : OS} {g : Nat → Int32} : (mcw y ad σ).set 7 (ad 90, .inl (y 2, 24, .inl g)) = mcw y ad (tI σ 90 g) := rfl
theorem mcw_a8 {y : Nat → ClassId} {ad : Nat → Nat} {σ : OS} : (mcw y ad σ)[8]? = some (ad 91, .inl (y 2, 350, .inl (σ.2.2.1 91))) := rfl
theorem mcw_s8 {y : Nat → ClassId} {ad : Nat → Nat} {σ : OS} {g : Nat → Int32} : (mcw y ad σ).set 8 (ad 91, .inl (y 2, 350, .inl g)) = mcw y ad (tI σ 91 g) := rfl
theorem mcw_a9 {y : Nat → ClassId} {ad : Nat → Nat} {σ : OS} : (mcw y ad σ)[9]? = some (ad 92, .inl (y 2, 700, .inl (σ.2.2.1 92))) := rfl
theorem mcw_s9 {y : Nat → ClassId} {ad : Nat → Nat} {σ : OS} {g : Nat → Int32} : (mcw y ad σ).set 9 (ad 92, .inl (y 2, 700, .inl g)) = mcw y ad (tI σ 92 g) := rfl
theorem mcw_a10 {y : Nat → ClassId} {ad : Nat → Nat} {σ : OS} : (mcw y ad σ)[10]? = some (ad 93, .inl (y 2, 700, .inl (σ.2.2.1 93))) := rfl
theorem mcw_s10 {y : Nat → ClassId} {ad : Nat → Nat} {σ : OS} {g : Nat → Int32} : (mcw y ad σ).set 10 (ad 93, .inl (y 2, 700, .inl g)) = mcw y ad (tI σ 93 g) := rfl
theorem mcw_a11 {y : Nat → ClassId} {ad : Nat → Nat} {σ : OS} : (mcw y ad σ)[11]? = some (ad 131, .inl (y 3, 1359, .inr (.inl (σ.2.2.2 131)))) := rfl
theorem mcw_s11 {y : Nat → ClassId} {ad : Nat → Nat} {σ : OS} {g : Nat → Int64} : (mcw y ad σ).set 11 (ad 131, .inl (y 3, 1359, .inr (.inl g))) = mcw y ad (tJ σ 131 g) := rfl
theorem mcw_a12 {y : Nat → ClassId} {ad : Nat → Nat} {σ : OS} : (mcw y ad σ)[12]? = some (ad 132, .inl (y 2, 1359, .inl (σ.2.2.1 132))) := rfl
theorem mcw_s12 {y : Nat → ClassId} {ad : Nat → Nat} {σ : OS} {g : Nat → Int32} : (mcw y ad σ).set 12 (ad 132, .inl (y 2, 1359, .inl g)) = mcw y ad (tI σ 132 g) := rfl
theorem mcw_a13 {y : Nat → ClassId} {ad : Nat → Nat} {σ : OS} : (mcw y ad σ)[13]? = some (ad 133, .inl (y 2, 1359, .inl (σ.2.2.1 133))) := rfl
theorem mcw_s13 {y : Nat → ClassId} {ad : Nat → Nat} {σ : OS} {g : Nat → Int32} : (mcw y ad σ).set 13 (ad 133, .inl (y 2, 1359, .inl g)) = mcw y ad (tI σ 133 g) := rfl
theorem mcw_a14 {y : Nat → ClassId} {ad : Nat → Nat} {σ : OS} : (mcw y ad σ)[14]? = some (ad 134, .inl (y 2, 1359, .inl (σ.2.2.1 134))) := rfl
theorem mcw_s14 {y : Nat → ClassId} {ad : Nat → Nat} {σ : OS} {g : Nat → Int32} : (mcw y ad σ).set 14 (ad 134, .inl (y 2, 1359, .inl g)) = mcw y ad (tI σ 134 g) := rfl
theorem mcw_a15 {y : Nat → ClassId} {ad : Nat → Nat} {σ : OS} : (mcw y ad σ)[15]? = some (ad 135, .inl (y 2, 12, .inl (σ.2.2.1 135))) := rfl
theorem mcw_s15 {y : Nat → ClassId} {ad : Nat → Nat} {σ : OS} {g : Nat → Int32} : (mcw y ad σ).set 15 (ad 135, .inl (y 2, 12, .inl g)) = mcw y ad (tI σ 135 g) := rfl
abbrev mc0_f0 (y : Nat → ClassId) (ad : Nat → Nat) (pv : Value) (tv : Value) (σ : OS) : List Value := [.ref (ad 111), .ref (ad 112), pv, tv, .int (σ.1 115), .int (σ.1 116)]
abbrev mc0_f1 (y : Nat → ClassId) (ad : Nat → Nat) (pv : Value) (tv : Value) (σ : OS) : List Value := [.int (σ.1 81), .int (σ.1 82), .int (σ.1 83), .int (σ.1 84), .int (σ.1 85), .int (σ.1 86), .ref (ad 87), .int (σ.1 88), .ref (ad 89), .ref (ad 90), .ref (ad 91), .ref (ad 92), .ref (ad 93)]
abbrev mc0_f2 (y : Nat → ClassId) (ad : Nat → Nat) (pv : Value) (tv : Value) (σ : OS) : List Value := [.ref (ad 131), .ref (ad 132), .ref (ad 133), .ref (ad 134), .ref (ad 135), .int (σ.1 136), .int (σ.1 137), .int (σ.1 138), .int (σ.1 139), .int (σ.1 140), .int (σ.1 141), .int (σ.1 142), .long (σ.2.1 143)]
def mc0 (y : Nat → ClassId) (ad : Nat → Nat) (pv : Value) (tv : Value) (σ : OS) : va_W := [((ad 110), .inr (3, mc0_f0 y ad pv tv σ)), ((ad 80), .inr (5, mc0_f1 y ad pv tv σ)), ((ad 130), .inr (7, mc0_f2 y ad pv tv σ)), (ad 111, .inl (y 2, 64, .inl (σ.2.2.1 111))), (ad 112, .inl (y 2, 84, .inl (σ.2.2.1 112))), (ad 87, .inl (y 2, 4, .inl (σ.2.2.1 87))), (ad 89, .inl (y 3, 24, .inr (.inl (σ.2.2.2 89)))), (ad 90, .inl (y 2, 24, .inl (σ.2.2.1 90))), (ad 91, .inl (y 2, 350, .inl (σ.2.2.1 91))), (ad 92, .inl (y 2, 700, .inl (σ.2.2.1 92))), (ad 93, .inl (y 2, 700, .inl (σ.2.2.1 93))), (ad 131, .inl (y 3, 1359, .inr (.inl (σ.2.2.2 131)))), (ad 132, .inl (y 2, 1359, .inl (σ.2.2.1 132))), (ad 133, .inl (y 2, 1359, .inl (σ.2.2.1 133))), (ad 134, .inl (y 2, 1359, .inl (σ.2.2.1 134))), (ad 135, .inl (y 2, 12, .inl (σ.2.2.1 135)))]
theorem mc0_o0 {y : Nat → ClassId} {ad : Nat → Nat} {pv : Value} {tv : Value} {σ : OS} : (mc0 y ad pv tv σ)[0]? = some ((ad 110), .inr (3, mc0_f0 y ad pv tv σ)) := rfl
theorem mc0_p0_2 {y : Nat → ClassId} {ad : Nat → Nat} {pv : Value} {tv : Value} {σ : OS} {v : Value} : (mc0 y ad pv tv σ).set 0 ((ad 110), .inr (3, (mc0_f0 y ad pv tv σ).set 2 v)) = mc0 y ad v tv σ := rfl
theorem mc0_p0_3 {y : Nat → ClassId} {ad : Nat → Nat} {pv : Value} {tv : Value} {σ : OS} {v : Value} : (mc0 y ad pv tv σ).set 0 ((ad 110), .inr (3, (mc0_f0 y ad pv tv σ).set 3 v)) = mc0 y ad pv v σ := rfl
theorem mc0_p0_4 {y : Nat → ClassId} {ad : Nat → Nat} {pv : Value} {tv : Value} {σ : OS} {v : Int32} : (mc0 y ad pv tv σ).set 0 ((ad 110), .inr (3, (mc0_f0 y ad pv tv σ).set 4 (.int v))) = mc0 y ad pv tv (sI σ 115 v) := rfl
theorem mc0_p0_5 {y : Nat → ClassId} {ad : Nat → Nat} {pv : Value} {tv : Value} {σ : OS} {v : Int32} : (mc0 y ad pv tv σ).set 0 ((ad 110), .inr (3, (mc0_f0 y ad pv tv σ).set 5 (.int v))) = mc0 y ad pv tv (sI σ 116 v) := rfl
theorem mc0_o1 {y : Nat → ClassId} {ad : Nat → Nat} {pv : Value} {tv : Value} {σ : OS} : (mc0 y ad pv tv σ)[1]? = some ((ad 80), .inr (5, mc0_f1 y ad pv tv σ)) := rfl
theorem mc0_p1_0 {y : Nat → ClassId} {ad : Nat → Nat} {pv : Value} {tv : Value} {σ : OS} {v : Int32} : (mc0 y ad pv tv σ).set 1 ((ad 80), .inr (5, (mc0_f1 y ad pv tv σ).set 0 (.int v))) = mc0 y ad pv tv (sI σ 81 v) := rfl
theorem mc0_p1_1 {y : Nat → ClassId} {ad : Nat → Nat} {pv : Value} {tv : Value} {σ : OS} {v : Int32} : (mc0 y ad pv tv σ).set 1 ((ad 80), .inr (5, (mc0_f1 y ad pv tv σ).set 1 (.int v))) = mc0 y ad pv tv (sI σ 82 v) := rfl
theorem mc0_p1_2 {y : Nat → ClassId} {ad : Nat → Nat} {pv : Value} {tv : Value} {σ : OS} {v : Int32} : (mc0 y ad pv tv σ).set 1 ((ad 80), .inr (5, (mc0_f1 y ad pv tv σ).set 2 (.int v))) = mc0 y ad pv tv (sI σ 83 v) := rfl
theorem mc0_p1_3 {y : Nat → ClassId} {ad : Nat → Nat} {pv : Value} {tv : Value} {σ : OS} {v : Int32} : (mc0 y ad pv tv σ).set 1 ((ad 80), .inr (5, (mc0_f1 y ad pv tv σ).set 3 (.int v))) = mc0 y ad pv tv (sI σ 84 v) := rfl
theorem mc0_p1_4 {y : Nat → ClassId} {ad : Nat → Nat} {pv : Value} {tv : Value} {σ : OS} {v : Int32} : (mc0 y ad pv tv σ).set 1 ((ad 80), .inr (5, (mc0_f1 y ad pv tv σ).set 4 (.int v))) = mc0 y ad pv tv (sI σ 85 v) := rfl
theorem mc0_p1_5 {y : Nat → ClassId} {ad : Nat → Nat} {pv : Value} {tv : Value} {σ : OS} {v : Int32} : (mc0 y ad pv tv σ).set 1 ((ad 80), .inr (5, (mc0_f1 y ad pv tv σ).set 5 (.int v))) = mc0 y ad pv tv (sI σ 86 v) := rfl
theorem mc0_p1_7 {y : Nat → ClassId} {ad : Nat → Nat} {pv : Value} {tv : Value} {σ : OS} {v : Int32} : (mc0 y ad pv tv σ).set 1 ((ad 80), .inr (5, (mc0_f1 y ad pv tv σ).set 7 (.int v))) = mc0 y ad pv tv (sI σ 88 v) := rfl
theorem mc0_o2 {y : Nat → ClassId} {ad : Nat → Nat} {pv : Value} {tv : Value} {σ : OS} : (mc0 y ad pv tv σ)[2]? = some ((ad 130), .inr (7, mc0_f2 y ad pv tv σ)) := rfl
theorem mc0_p2_5 {y : Nat → ClassId} {ad : Nat → Nat} {pv : Value} {tv : Value} {σ : OS} {v : Int32} : (mc0 y ad pv tv σ).set 2 ((ad 130), .inr (7, (mc0_f2 y ad pv tv σ).set 5 (.int v))) = mc0 y ad pv tv (sI σ 136 v) := rfl
theorem mc0_p2_6 {y : Nat → ClassId} {ad : Nat → Nat} {pv : Value} {tv : Value} {σ : OS} {v : Int32} : (mc0 y ad pv tv σ).set 2 ((ad 130), .inr (7, (mc0_f2 y ad pv tv σ).set 6 (.int v))) = mc0 y ad pv tv (sI σ 137 v) := rfl
theorem mc0_p2_7 {y : Nat → ClassId} {ad : Nat → Nat} {pv : Value} {tv : Value} {σ : OS} {v : Int32} : (mc0 y ad pv tv σ).set 2 ((ad 130), .inr (7, (mc0_f2 y ad pv tv σ).set 7 (.int v))) = mc0 y ad pv tv (sI σ 138 v) := rfl
theorem mc0_p2_8 {y : Nat → ClassId} {ad : Nat → Nat} {pv : Value} {tv : Value} {σ : OS} {v : Int32} : (mc0 y ad pv tv σ).set 2 ((ad 130), .inr (7, (mc0_f2 y ad pv tv σ).set 8 (.int v))) = mc0 y ad pv tv (sI σ 139 v) := rfl
theorem mc0_p2_9 {y : Nat → ClassId} {ad : Nat → Nat} {pv : Value} {tv : Value} {σ : OS} {v : Int32} : (mc0 y ad pv tv σ).set 2 ((ad 130), .inr (7, (mc0_f2 y ad pv tv σ).set 9 (.int v))) = mc0 y ad pv tv (sI σ 140 v) := rfl
theorem mc0_p2_10 {y : Nat → ClassId} {ad : Nat → Nat} {pv : Value} {tv : Value} {σ : OS} {v : Int32} : (mc0 y ad pv tv σ).set 2 ((ad 130), .inr (7, (mc0_f2 y ad pv tv σ).set 10 (.int v))) = mc0 y ad pv tv (sI σ 141 v) := rfl
theorem mc0_p2_11 {y : Nat → ClassId} {ad : Nat → Nat} {pv : Value} {tv : Value} {σ : OS} {v : Int32} : (mc0 y ad pv tv σ).set 2 ((ad 130), .inr (7, (mc0_f2 y ad pv tv σ).set 11 (.int v))) = mc0 y ad pv tv (sI σ 142 v) := rfl
theorem mc0_p2_12 {y : Nat → ClassId} {ad : Nat → Nat} {pv : Value} {tv : Value} {σ : OS} {v : Int64} : (mc0 y ad pv tv σ).set 2 ((ad 130), .inr (7, (mc0_f2 y ad pv tv σ).set 12 (.long v))) = mc0 y ad pv tv (sJ σ 143 v) := rfl
theorem mc0_a3 {y : Nat → ClassId} {ad : Nat → Nat} {pv : Value} {tv : Value} {σ : OS} : (mc0 y ad pv tv σ)[3]? = some (ad 111, .inl (y 2, 64, .inl (σ.2.2.1 111))) := rfl
theorem mc0_s3 {y : Nat → ClassId} {ad : Nat → Nat} {pv : Value} {tv : Value} {σ : OS} {g : Nat → Int32} : (mc0 y ad pv tv σ).set 3 (ad 111, .inl (y 2, 64, .inl g)) = mc0 y ad pv tv (tI σ 111 g) := rfl
theorem mc0_a4 {y : Nat → ClassId} {ad : Nat → Nat} {pv : Value} {tv : Value} {σ : OS} : (mc0 y ad pv tv σ)[4]? = some (ad 112, .inl (y 2, 84, .inl (σ.2.2.1 112))) := rfl
theorem mc0_s4 {y : Nat → ClassId} {ad : Nat → Nat} {pv : Value} {tv : Value} {σ : OS} {g : Nat → Int32} : (mc0 y ad pv tv σ).set 4 (ad 112, .inl (y 2, 84, .inl g)) = mc0 y ad pv tv (tI σ 112 g) := rfl
theorem mc0_a5 {y : Nat → ClassId} {ad : Nat → Nat} {pv : Value} {tv : Value} {σ : OS} : (mc0 y ad pv tv σ)[5]? = some (ad 87, .inl (y 2, 4, .inl (σ.2.2.1 87))) := rfl
theorem mc0_s5 {y : Nat → ClassId} {ad : Nat → Nat} {pv : Value} {tv : Value} {σ : OS} {g : Nat → Int32} : (mc0 y ad pv tv σ).set 5 (ad 87, .inl (y 2, 4, .inl g)) = mc0 y ad pv tv (tI σ 87 g) := rfl
theorem mc0_a6 {y : Nat → ClassId} {ad : Nat → Nat} {pv : Value} {tv : Value} {σ : OS} : (mc0 y ad pv tv σ)[6]? = some (ad 89, .inl (y 3, 24, .inr (.inl (σ.2.2.2 89)))) := rfl
theorem mc0_s6 {y : Nat → ClassId} {ad : Nat → Nat} {pv : Value} {tv : Value} {σ : OS} {g : Nat → Int64} : (mc0 y ad pv tv σ).set 6 (ad 89, .inl (y 3, 24, .inr (.inl g))) = mc0 y ad pv tv (tJ σ 89 g) := rfl
theorem mc0_a7 {y : Nat → ClassId} {ad : Nat → Nat} {pv : Value} {tv : Value} {σ : OS} : (mc0 y ad pv tv σ)[7]? = some (ad 90, .inl (y 2, 24, .inl (σ.2.2.1 90))) := rfl
theorem mc0_s7 {y : Nat → ClassId} {ad : Nat → Nat} {pv : Value} {tv : Value} {σ : OS} {g : Nat → Int32} : (mc0 y ad pv tv σ).set 7 (ad 90, .inl (y 2, 24, .inl g)) = mc0 y ad pv tv (tI σ 90 g) := rfl
theorem mc0_a8 {y : Nat → ClassId} {ad : Nat → Nat} {pv : Value} {tv : Value} {σ : OS} : (mc0 y ad pv tv σ)[8]? = some (ad 91, .inl (y 2, 350, .inl (σ.2.2.1 91))) := rfl
theorem mc0_s8 {y : Nat → ClassId} {ad : Nat → Nat} {pv : Value} {tv : Value} {σ : OS} {g : Nat → Int32} : (mc0 y ad pv tv σ).set 8 (ad 91, .inl (y 2, 350, .inl g)) = mc0 y ad pv tv (tI σ 91 g) := rfl
theorem mc0_a9 {y : Nat → ClassId} {ad : Nat → Nat} {pv : Value} {tv : Value} {σ : OS} : (mc0 y ad pv tv σ)[9]? = some (ad 92, .inl (y 2, 700, .inl (σ.2.2.1 92))) := rfl
theorem mc0_s9 {y : Nat → ClassId} {ad : Nat → Nat} {pv : Value} {tv : Value} {σ : OS} {g : Nat → Int32} : (mc0 y ad pv tv σ).set 9 (ad 92, .inl (y 2, 700, .inl g)) = mc0 y ad pv tv (tI σ 92 g) := rfl
theorem mc0_a10 {y : Nat → ClassId} {ad : Nat → Nat} {pv : Value} {tv : Value} {σ : OS} : (mc0 y ad pv tv σ)[10]? = some (ad 93, .inl (y 2, 700, .inl (σ.2.2.1 93))) := rfl
theorem mc0_s10 {y : Nat → ClassId} {ad : Nat → Nat} {pv : Value} {tv : Value} {σ : OS} {g : Nat → Int32} : (mc0 y ad pv tv σ).set 10 (ad 93, .inl (y 2, 700, .inl g)) = mc0 y ad pv tv (tI σ 93 g) := rfl
theorem mc0_a11 {y : Nat → ClassId} {ad : Nat → Nat} {pv : Value} {tv : Value} {σ : OS} : (mc0 y ad pv tv σ)[11]? = some (ad 131, .inl (y 3, 1359, .inr (.inl (σ.2.2.2 131)))) := rfl
theorem mc0_s11 {y : Nat → ClassId} {ad : Nat → Nat} {pv : Value} {tv : Value} {σ : OS} {g : Nat → Int64} : (mc0 y ad pv tv σ).set 11 (ad 131, .inl (y 3, 1359, .inr (.inl g))) = mc0 y ad pv tv (tJ σ 131 g) := rfl
theorem mc0_a12 {y : Nat → ClassId} {ad : Nat → Nat} {pv : Value} {tv : Value} {σ : OS} : (mc0 y ad pv tv σ)[12]? = some (ad 132, .inl (y 2, 1359, .inl (σ.2.2.1 132))) := rfl
theorem mc0_s12 {y : Nat → ClassId} {ad : Nat → Nat} {pv : Value} {tv : Value} {σ : OS} {g : Nat → Int32} : (mc0 y ad pv tv σ).set 12 (ad 132, .inl (y 2, 1359, .inl g)) = mc0 y ad pv tv (tI σ 132 g) := rfl
theorem mc0_a13 {y : Nat → ClassId} {ad : Nat → Nat} {pv : Value} {tv : Value} {σ : OS} : (mc0 y ad pv tv σ)[13]? = some (ad 133, .inl (y 2, 1359, .inl (σ.2.2.1 133))) := rfl
theorem mc0_s13 {y : Nat → ClassId} {ad : Nat → Nat} {pv : Value} {tv : Value} {σ : OS} {g : Nat → Int32} : (mc0 y ad pv tv σ).set 13 (ad 133, .inl (y 2, 1359, .inl g)) = mc0 y ad pv tv (tI σ 133 g) := rfl
theorem mc0_a14 {y : Nat → ClassId} {ad : Nat → Nat} {pv : Value} {tv : Value} {σ : OS} : (mc0 y ad pv tv σ)[14]? = some (ad 134, .inl (y 2, 1359, .inl (σ.2.2.1 134))) := rfl
theorem mc0_s14 {y : Nat → ClassId} {ad : Nat → Nat} {pv : Value} {tv : Value} {σ : OS} {g : Nat → Int32} : (mc0 y ad pv tv σ).set 14 (ad 134, .inl (y 2, 1359, .inl g)) = mc0 y ad pv tv (tI σ 134 g) := rfl
theorem mc0_a15 {y : Nat → ClassId} {ad : Nat → Nat} {pv : Value} {tv : Value} {σ : OS} : (mc0 y ad pv tv σ)[15]? = some (ad 135, .inl (y 2, 12, .inl (σ.2.2.1 135))) := rfl
theorem mc0_s15 {y : Nat → ClassId} {ad : Nat → Nat} {pv : Value} {tv : Value} {σ : OS} {g : Nat → Int32} : (mc0 y ad pv tv σ).set 15 (ad 135, .inl (y 2, 12, .inl g)) = mc0 y ad pv tv (tI σ 135 g) := rfl
theorem dX4_worked_0 : decode cX4_worked 0 = .ok (.iload_n 0, 1) := by decide +kernel
theorem dX4_worked_1 : decode cX4_worked 1 = .ok (.tableswitch 45 6 8 #[27, 33, 39], 27) := by decide +kernel
theorem dX4_worked_28 : decode cX4_worked 28 = .ok (.lload_n 1, 1) := by decide +kernel
theorem dX4_worked_29 : decode cX4_worked 29 = .ok (.lload_n 3, 1) := by decide +kernel
theorem dX4_worked_30 : decode cX4_worked 30 = .ok (.invokestatic 130, 3) := by decide +kernel
theorem dX4_worked_33 : decode cX4_worked 33 = .ok (.lreturn, 1) := by decide +kernel
theorem dX4_worked_34 : decode cX4_worked 34 = .ok (.lload_n 1, 1) := by decide +kernel
theorem dX4_worked_35 : decode cX4_worked 35 = .ok (.lload_n 3, 1) := by decide +kernel
theorem dX4_worked_36 : decode cX4_worked 36 = .ok (.invokestatic 134, 3) := by decide +kernel
theorem dX4_worked_39 : decode cX4_worked 39 = .ok (.lreturn, 1) := by decide +kernel
theorem dX4_worked_40 : decode cX4_worked 40 = .ok (.lload_n 1, 1) := by decide +kernel
theorem dX4_worked_41 : decode cX4_worked 41 = .ok (.lload_n 3, 1) := by decide +kernel
theorem dX4_worked_42 : decode cX4_worked 42 = .ok (.invokestatic 137, 3) := by decide +kernel
theorem dX4_worked_45 : decode cX4_worked 45 = .ok (.lreturn, 1) := by decide +kernel
theorem dX4_worked_46 : decode cX4_worked 46 = .ok (.lload_n 1, 1) := by decide +kernel
theorem dX4_worked_47 : decode cX4_worked 47 = .ok (.lload_n 3, 1) := by decide +kernel
theorem dX4_worked_48 : decode cX4_worked 48 = .ok (.invokestatic 140, 3) := by decide +kernel
theorem dX4_worked_51 : decode cX4_worked 51 = .ok (.lreturn, 1) := by decide +kernel
theorem dX4_push_0 : decode cX4_push 0 = .ok (.aload_n 0, 1) := by decide +kernel
theorem dX4_push_1 : decode cX4_push 1 = .ok (.getfield 28, 3) := by decide +kernel
theorem dX4_push_4 : decode cX4_push 4 = .ok (.bipush 64, 2) := by decide +kernel
theorem dX4_push_6 : decode cX4_push 6 = .ok (.if_icmp .ge 23, 3) := by decide +kernel
theorem dX4_push_9 : decode cX4_push 9 = .ok (.aload_n 0, 1) := by decide +kernel
theorem dX4_push_10 : decode cX4_push 10 = .ok (.getfield 13, 3) := by decide +kernel
theorem dX4_push_13 : decode cX4_push 13 = .ok (.aload_n 0, 1) := by decide +kernel
theorem dX4_push_14 : decode cX4_push 14 = .ok (.getfield 28, 3) := by decide +kernel
theorem dX4_push_17 : decode cX4_push 17 = .ok (.iload_n 1, 1) := by decide +kernel
theorem dX4_push_18 : decode cX4_push 18 = .ok (.iastore, 1) := by decide +kernel
theorem dX4_push_19 : decode cX4_push 19 = .ok (.aload_n 0, 1) := by decide +kernel
theorem dX4_push_20 : decode cX4_push 20 = .ok (.dup, 1) := by decide +kernel
theorem dX4_push_21 : decode cX4_push 21 = .ok (.getfield 28, 3) := by decide +kernel
theorem dX4_push_24 : decode cX4_push 24 = .ok (.iconst 1, 1) := by decide +kernel
theorem dX4_push_25 : decode cX4_push 25 = .ok (.iadd, 1) := by decide +kernel
theorem dX4_push_26 : decode cX4_push 26 = .ok (.putfield 28, 3) := by decide +kernel
theorem dX4_push_29 : decode cX4_push 29 = .ok (.return_, 1) := by decide +kernel
theorem dX4_pop_0 : decode cX4_pop 0 = .ok (.aload_n 0, 1) := by decide +kernel
theorem dX4_pop_1 : decode cX4_pop 1 = .ok (.getfield 28, 3) := by decide +kernel
theorem dX4_pop_4 : decode cX4_pop 4 = .ok (.ifCond .gt 5, 3) := by decide +kernel
theorem dX4_pop_7 : decode cX4_pop 7 = .ok (.iconst 0, 1) := by decide +kernel
theorem dX4_pop_8 : decode cX4_pop 8 = .ok (.ireturn, 1) := by decide +kernel
theorem dX4_pop_9 : decode cX4_pop 9 = .ok (.aload_n 0, 1) := by decide +kernel
theorem dX4_pop_10 : decode cX4_pop 10 = .ok (.dup, 1) := by decide +kernel
theorem dX4_pop_11 : decode cX4_pop 11 = .ok (.getfield 28, 3) := by decide +kernel
theorem dX4_pop_14 : decode cX4_pop 14 = .ok (.iconst 1, 1) := by decide +kernel
theorem dX4_pop_15 : decode cX4_pop 15 = .ok (.isub, 1) := by decide +kernel
theorem dX4_pop_16 : decode cX4_pop 16 = .ok (.putfield 28, 3) := by decide +kernel
theorem dX4_pop_19 : decode cX4_pop 19 = .ok (.aload_n 0, 1) := by decide +kernel
theorem dX4_pop_20 : decode cX4_pop 20 = .ok (.getfield 13, 3) := by decide +kernel
theorem dX4_pop_23 : decode cX4_pop 23 = .ok (.aload_n 0, 1) := by decide +kernel
theorem dX4_pop_24 : decode cX4_pop 24 = .ok (.getfield 28, 3) := by decide +kernel
theorem dX4_pop_27 : decode cX4_pop 27 = .ok (.iaload, 1) := by decide +kernel
theorem dX4_pop_28 : decode cX4_pop 28 = .ok (.ireturn, 1) := by decide +kernel
theorem dX4_pushFact_0 : decode cX4_pushFact 0 = .ok (.aload_n 0, 1) := by decide +kernel
theorem dX4_pushFact_1 : decode cX4_pushFact 1 = .ok (.iload_n 1, 1) := by decide +kernel
theorem dX4_pushFact_2 : decode cX4_pushFact 2 = .ok (.ifCond .eq 7, 3) := by decide +kernel
theorem dX4_pushFact_5 : decode cX4_pushFact 5 = .ok (.iconst 1, 1) := by decide +kernel
theorem dX4_pushFact_6 : decode cX4_pushFact 6 = .ok (.goto 4, 3) := by decide +kernel
theorem dX4_pushFact_9 : decode cX4_pushFact 9 = .ok (.iconst 0, 1) := by decide +kernel
theorem dX4_pushFact_10 : decode cX4_pushFact 10 = .ok (.invokevirtual 69, 3) := by decide +kernel
theorem dX4_pushFact_13 : decode cX4_pushFact 13 = .ok (.return_, 1) := by decide +kernel
theorem dX4_load_0 : decode cX4_load 0 = .ok (.iload_n 1, 1) := by decide +kernel
theorem dX4_load_1 : decode cX4_load 1 = .ok (.ifCond .lt 12, 3) := by decide +kernel
theorem dX4_load_4 : decode cX4_load 4 = .ok (.iload_n 1, 1) := by decide +kernel
theorem dX4_load_5 : decode cX4_load 5 = .ok (.aload_n 0, 1) := by decide +kernel
theorem dX4_load_6 : decode cX4_load 6 = .ok (.getfield 17, 3) := by decide +kernel
theorem dX4_load_9 : decode cX4_load 9 = .ok (.arraylength, 1) := by decide +kernel
theorem dX4_load_10 : decode cX4_load 10 = .ok (.if_icmp .lt 14, 3) := by decide +kernel
theorem dX4_load_13 : decode cX4_load 13 = .ok (.aload_n 0, 1) := by decide +kernel
theorem dX4_load_14 : decode cX4_load 14 = .ok (.getfield 24, 3) := by decide +kernel
theorem dX4_load_17 : decode cX4_load 17 = .ok (.iconst 1, 1) := by decide +kernel
theorem dX4_load_18 : decode cX4_load 18 = .ok (.putfield 45, 3) := by decide +kernel
theorem dX4_load_21 : decode cX4_load 21 = .ok (.goto 13, 3) := by decide +kernel
theorem dX4_load_24 : decode cX4_load 24 = .ok (.aload_n 0, 1) := by decide +kernel
theorem dX4_load_25 : decode cX4_load 25 = .ok (.aload_n 0, 1) := by decide +kernel
theorem dX4_load_26 : decode cX4_load 26 = .ok (.getfield 17, 3) := by decide +kernel
theorem dX4_load_29 : decode cX4_load 29 = .ok (.iload_n 1, 1) := by decide +kernel
theorem dX4_load_30 : decode cX4_load 30 = .ok (.iaload, 1) := by decide +kernel
theorem dX4_load_31 : decode cX4_load 31 = .ok (.invokevirtual 69, 3) := by decide +kernel
theorem dX4_load_34 : decode cX4_load 34 = .ok (.return_, 1) := by decide +kernel
theorem dX4_store_0 : decode cX4_store 0 = .ok (.iload_n 1, 1) := by decide +kernel
theorem dX4_store_1 : decode cX4_store 1 = .ok (.ifCond .lt 12, 3) := by decide +kernel
theorem dX4_store_4 : decode cX4_store 4 = .ok (.iload_n 1, 1) := by decide +kernel
theorem dX4_store_5 : decode cX4_store 5 = .ok (.aload_n 0, 1) := by decide +kernel
theorem dX4_store_6 : decode cX4_store 6 = .ok (.getfield 17, 3) := by decide +kernel
theorem dX4_store_9 : decode cX4_store 9 = .ok (.arraylength, 1) := by decide +kernel
theorem dX4_store_10 : decode cX4_store 10 = .ok (.if_icmp .lt 14, 3) := by decide +kernel
theorem dX4_store_13 : decode cX4_store 13 = .ok (.aload_n 0, 1) := by decide +kernel
theorem dX4_store_14 : decode cX4_store 14 = .ok (.getfield 24, 3) := by decide +kernel
theorem dX4_store_17 : decode cX4_store 17 = .ok (.iconst 1, 1) := by decide +kernel
theorem dX4_store_18 : decode cX4_store 18 = .ok (.putfield 45, 3) := by decide +kernel
theorem dX4_store_21 : decode cX4_store 21 = .ok (.goto 13, 3) := by decide +kernel
theorem dX4_store_24 : decode cX4_store 24 = .ok (.aload_n 0, 1) := by decide +kernel
theorem dX4_store_25 : decode cX4_store 25 = .ok (.getfield 17, 3) := by decide +kernel
theorem dX4_store_28 : decode cX4_store 28 = .ok (.iload_n 1, 1) := by decide +kernel
theorem dX4_store_29 : decode cX4_store 29 = .ok (.aload_n 0, 1) := by decide +kernel
theorem dX4_store_30 : decode cX4_store 30 = .ok (.invokevirtual 81, 3) := by decide +kernel
theorem dX4_store_33 : decode cX4_store 33 = .ok (.iastore, 1) := by decide +kernel
theorem dX4_store_34 : decode cX4_store 34 = .ok (.return_, 1) := by decide +kernel
theorem dX4_slotInRow_0 : decode cX4_slotInRow 0 = .ok (.aload_n 0, 1) := by decide +kernel
theorem dX4_slotInRow_1 : decode cX4_slotInRow 1 = .ok (.getfield 24, 3) := by decide +kernel
theorem dX4_slotInRow_4 : decode cX4_slotInRow 4 = .ok (.aload_n 0, 1) := by decide +kernel
theorem dX4_slotInRow_5 : decode cX4_slotInRow 5 = .ok (.invokevirtual 81, 3) := by decide +kernel
theorem dX4_slotInRow_8 : decode cX4_slotInRow 8 = .ok (.invokevirtual 88, 3) := by decide +kernel
theorem dX4_slotInRow_11 : decode cX4_slotInRow 11 = .ok (.lstore_n 2, 1) := by decide +kernel
theorem dX4_slotInRow_12 : decode cX4_slotInRow 12 = .ok (.lload_n 2, 1) := by decide +kernel
theorem dX4_slotInRow_13 : decode cX4_slotInRow 13 = .ok (.invokestatic 92, 3) := by decide +kernel
theorem dX4_slotInRow_16 : decode cX4_slotInRow 16 = .ok (.lstore 4, 2) := by decide +kernel
theorem dX4_slotInRow_18 : decode cX4_slotInRow 18 = .ok (.iload_n 1, 1) := by decide +kernel
theorem dX4_slotInRow_19 : decode cX4_slotInRow 19 = .ok (.ifCond .lt 23, 3) := by decide +kernel
theorem dX4_slotInRow_22 : decode cX4_slotInRow 22 = .ok (.iload_n 1, 1) := by decide +kernel
theorem dX4_slotInRow_23 : decode cX4_slotInRow 23 = .ok (.aload_n 0, 1) := by decide +kernel
theorem dX4_slotInRow_24 : decode cX4_slotInRow 24 = .ok (.getfield 20, 3) := by decide +kernel
theorem dX4_slotInRow_27 : decode cX4_slotInRow 27 = .ok (.getfield 98, 3) := by decide +kernel
theorem dX4_slotInRow_30 : decode cX4_slotInRow 30 = .ok (.if_icmp .ge 12, 3) := by decide +kernel
theorem dX4_slotInRow_33 : decode cX4_slotInRow 33 = .ok (.lload_n 2, 1) := by decide +kernel
theorem dX4_slotInRow_34 : decode cX4_slotInRow 34 = .ok (.invokestatic 101, 3) := by decide +kernel
theorem dX4_slotInRow_37 : decode cX4_slotInRow 37 = .ok (.lconst 1, 1) := by decide +kernel
theorem dX4_slotInRow_38 : decode cX4_slotInRow 38 = .ok (.lcmp, 1) := by decide +kernel
theorem dX4_slotInRow_39 : decode cX4_slotInRow 39 = .ok (.ifCond .eq 5, 3) := by decide +kernel
theorem dX4_slotInRow_42 : decode cX4_slotInRow 42 = .ok (.iconst (-1), 1) := by decide +kernel
theorem dX4_slotInRow_43 : decode cX4_slotInRow 43 = .ok (.ireturn, 1) := by decide +kernel
theorem dX4_slotInRow_44 : decode cX4_slotInRow 44 = .ok (.lload 4, 2) := by decide +kernel
theorem dX4_slotInRow_46 : decode cX4_slotInRow 46 = .ok (.lconst 0, 1) := by decide +kernel
theorem dX4_slotInRow_47 : decode cX4_slotInRow 47 = .ok (.lcmp, 1) := by decide +kernel
theorem dX4_slotInRow_48 : decode cX4_slotInRow 48 = .ok (.ifCond .lt 19, 3) := by decide +kernel
theorem dX4_slotInRow_51 : decode cX4_slotInRow 51 = .ok (.lload 4, 2) := by decide +kernel
theorem dX4_slotInRow_53 : decode cX4_slotInRow 53 = .ok (.aload_n 0, 1) := by decide +kernel
theorem dX4_slotInRow_54 : decode cX4_slotInRow 54 = .ok (.getfield 20, 3) := by decide +kernel
theorem dX4_slotInRow_57 : decode cX4_slotInRow 57 = .ok (.getfield 104, 3) := by decide +kernel
theorem dX4_slotInRow_60 : decode cX4_slotInRow 60 = .ok (.iload_n 1, 1) := by decide +kernel
theorem dX4_slotInRow_61 : decode cX4_slotInRow 61 = .ok (.iaload, 1) := by decide +kernel
theorem dX4_slotInRow_62 : decode cX4_slotInRow 62 = .ok (.i2l, 1) := by decide +kernel
theorem dX4_slotInRow_63 : decode cX4_slotInRow 63 = .ok (.lcmp, 1) := by decide +kernel
theorem dX4_slotInRow_64 : decode cX4_slotInRow 64 = .ok (.ifCond .lt 5, 3) := by decide +kernel
theorem dX4_slotInRow_67 : decode cX4_slotInRow 67 = .ok (.iconst (-1), 1) := by decide +kernel
theorem dX4_slotInRow_68 : decode cX4_slotInRow 68 = .ok (.ireturn, 1) := by decide +kernel
theorem dX4_slotInRow_69 : decode cX4_slotInRow 69 = .ok (.bipush 20, 2) := by decide +kernel
theorem dX4_slotInRow_71 : decode cX4_slotInRow 71 = .ok (.iload_n 1, 1) := by decide +kernel
theorem dX4_slotInRow_72 : decode cX4_slotInRow 72 = .ok (.bipush 16, 2) := by decide +kernel
theorem dX4_slotInRow_74 : decode cX4_slotInRow 74 = .ok (.imul, 1) := by decide +kernel
theorem dX4_slotInRow_75 : decode cX4_slotInRow 75 = .ok (.iadd, 1) := by decide +kernel
theorem dX4_slotInRow_76 : decode cX4_slotInRow 76 = .ok (.lload 4, 2) := by decide +kernel
theorem dX4_slotInRow_78 : decode cX4_slotInRow 78 = .ok (.l2i, 1) := by decide +kernel
theorem dX4_slotInRow_79 : decode cX4_slotInRow 79 = .ok (.iadd, 1) := by decide +kernel
theorem dX4_slotInRow_80 : decode cX4_slotInRow 80 = .ok (.ireturn, 1) := by decide +kernel
theorem dX4_reckon_0 : decode cX4_reckon 0 = .ok (.aload_n 0, 1) := by decide +kernel
theorem dX4_reckon_1 : decode cX4_reckon 1 = .ok (.invokevirtual 81, 3) := by decide +kernel
theorem dX4_reckon_4 : decode cX4_reckon 4 = .ok (.istore_n 2, 1) := by decide +kernel
theorem dX4_reckon_5 : decode cX4_reckon 5 = .ok (.aload_n 0, 1) := by decide +kernel
theorem dX4_reckon_6 : decode cX4_reckon 6 = .ok (.invokevirtual 81, 3) := by decide +kernel
theorem dX4_reckon_9 : decode cX4_reckon 9 = .ok (.istore_n 3, 1) := by decide +kernel
theorem dX4_reckon_10 : decode cX4_reckon 10 = .ok (.iload_n 1, 1) := by decide +kernel
theorem dX4_reckon_11 : decode cX4_reckon 11 = .ok (.aload_n 0, 1) := by decide +kernel
theorem dX4_reckon_12 : decode cX4_reckon 12 = .ok (.getfield 24, 3) := by decide +kernel
theorem dX4_reckon_15 : decode cX4_reckon 15 = .ok (.iload_n 3, 1) := by decide +kernel
theorem dX4_reckon_16 : decode cX4_reckon 16 = .ok (.invokevirtual 88, 3) := by decide +kernel
theorem dX4_reckon_19 : decode cX4_reckon 19 = .ok (.aload_n 0, 1) := by decide +kernel
theorem dX4_reckon_20 : decode cX4_reckon 20 = .ok (.getfield 24, 3) := by decide +kernel
theorem dX4_reckon_23 : decode cX4_reckon 23 = .ok (.iload_n 2, 1) := by decide +kernel
theorem dX4_reckon_24 : decode cX4_reckon 24 = .ok (.invokevirtual 88, 3) := by decide +kernel
theorem dX4_reckon_27 : decode cX4_reckon 27 = .ok (.invokestatic 122, 3) := by decide +kernel
theorem dX4_reckon_30 : decode cX4_reckon 30 = .ok (.lstore 4, 2) := by decide +kernel
theorem dX4_reckon_32 : decode cX4_reckon 32 = .ok (.lload 4, 2) := by decide +kernel
theorem dX4_reckon_34 : decode cX4_reckon 34 = .ok (.lconst 0, 1) := by decide +kernel
theorem dX4_reckon_35 : decode cX4_reckon 35 = .ok (.lcmp, 1) := by decide +kernel
theorem dX4_reckon_36 : decode cX4_reckon 36 = .ok (.ifCond .ne 14, 3) := by decide +kernel
theorem dX4_reckon_39 : decode cX4_reckon 39 = .ok (.aload_n 0, 1) := by decide +kernel
theorem dX4_reckon_40 : decode cX4_reckon 40 = .ok (.getfield 24, 3) := by decide +kernel
theorem dX4_reckon_43 : decode cX4_reckon 43 = .ok (.iconst 1, 1) := by decide +kernel
theorem dX4_reckon_44 : decode cX4_reckon 44 = .ok (.putfield 45, 3) := by decide +kernel
theorem dX4_reckon_47 : decode cX4_reckon 47 = .ok (.goto 19, 3) := by decide +kernel
theorem dX4_reckon_50 : decode cX4_reckon 50 = .ok (.aload_n 0, 1) := by decide +kernel
theorem dX4_reckon_51 : decode cX4_reckon 51 = .ok (.aload_n 0, 1) := by decide +kernel
theorem dX4_reckon_52 : decode cX4_reckon 52 = .ok (.getfield 24, 3) := by decide +kernel
theorem dX4_reckon_55 : decode cX4_reckon 55 = .ok (.iload_n 1, 1) := by decide +kernel
theorem dX4_reckon_56 : decode cX4_reckon 56 = .ok (.iload_n 3, 1) := by decide +kernel
theorem dX4_reckon_57 : decode cX4_reckon 57 = .ok (.iload_n 2, 1) := by decide +kernel
theorem dX4_reckon_58 : decode cX4_reckon 58 = .ok (.lload 4, 2) := by decide +kernel
theorem dX4_reckon_60 : decode cX4_reckon 60 = .ok (.invokevirtual 126, 3) := by decide +kernel
theorem dX4_reckon_63 : decode cX4_reckon 63 = .ok (.invokevirtual 69, 3) := by decide +kernel
theorem dX4_reckon_66 : decode cX4_reckon 66 = .ok (.return_, 1) := by decide +kernel
theorem dX4_dropSign_0 : decode cX4_dropSign 0 = .ok (.aload_n 0, 1) := by decide +kernel
theorem dX4_dropSign_1 : decode cX4_dropSign 1 = .ok (.invokevirtual 81, 3) := by decide +kernel
theorem dX4_dropSign_4 : decode cX4_dropSign 4 = .ok (.istore_n 1, 1) := by decide +kernel
theorem dX4_dropSign_5 : decode cX4_dropSign 5 = .ok (.aload_n 0, 1) := by decide +kernel
theorem dX4_dropSign_6 : decode cX4_dropSign 6 = .ok (.getfield 24, 3) := by decide +kernel
theorem dX4_dropSign_9 : decode cX4_dropSign 9 = .ok (.iload_n 1, 1) := by decide +kernel
theorem dX4_dropSign_10 : decode cX4_dropSign 10 = .ok (.invokevirtual 88, 3) := by decide +kernel
theorem dX4_dropSign_13 : decode cX4_dropSign 13 = .ok (.lstore_n 2, 1) := by decide +kernel
theorem dX4_dropSign_14 : decode cX4_dropSign 14 = .ok (.aload_n 0, 1) := by decide +kernel
theorem dX4_dropSign_15 : decode cX4_dropSign 15 = .ok (.getfield 24, 3) := by decide +kernel
theorem dX4_dropSign_18 : decode cX4_dropSign 18 = .ok (.lload_n 2, 1) := by decide +kernel
theorem dX4_dropSign_19 : decode cX4_dropSign 19 = .ok (.lconst 1, 1) := by decide +kernel
theorem dX4_dropSign_20 : decode cX4_dropSign 20 = .ok (.invokevirtual 143, 3) := by decide +kernel
theorem dX4_dropSign_23 : decode cX4_dropSign 23 = .ok (.lload_n 2, 1) := by decide +kernel
theorem dX4_dropSign_24 : decode cX4_dropSign 24 = .ok (.invokestatic 92, 3) := by decide +kernel
theorem dX4_dropSign_27 : decode cX4_dropSign 27 = .ok (.lconst 0, 1) := by decide +kernel
theorem dX4_dropSign_28 : decode cX4_dropSign 28 = .ok (.lcmp, 1) := by decide +kernel
theorem dX4_dropSign_29 : decode cX4_dropSign 29 = .ok (.ifCond .ge 8, 3) := by decide +kernel
theorem dX4_dropSign_32 : decode cX4_dropSign 32 = .ok (.bipush 31, 2) := by decide +kernel
theorem dX4_dropSign_34 : decode cX4_dropSign 34 = .ok (.goto 5, 3) := by decide +kernel
theorem dX4_dropSign_37 : decode cX4_dropSign 37 = .ok (.bipush 30, 2) := by decide +kernel
theorem dX4_dropSign_39 : decode cX4_dropSign 39 = .ok (.istore 4, 2) := by decide +kernel
theorem dX4_dropSign_41 : decode cX4_dropSign 41 = .ok (.aload_n 0, 1) := by decide +kernel
theorem dX4_dropSign_42 : decode cX4_dropSign 42 = .ok (.aload_n 0, 1) := by decide +kernel
theorem dX4_dropSign_43 : decode cX4_dropSign 43 = .ok (.getfield 24, 3) := by decide +kernel
theorem dX4_dropSign_46 : decode cX4_dropSign 46 = .ok (.iload 4, 2) := by decide +kernel
theorem dX4_dropSign_48 : decode cX4_dropSign 48 = .ok (.iload_n 1, 1) := by decide +kernel
theorem dX4_dropSign_49 : decode cX4_dropSign 49 = .ok (.iload_n 1, 1) := by decide +kernel
theorem dX4_dropSign_50 : decode cX4_dropSign 50 = .ok (.lload_n 2, 1) := by decide +kernel
theorem dX4_dropSign_51 : decode cX4_dropSign 51 = .ok (.invokestatic 147, 3) := by decide +kernel
theorem dX4_dropSign_54 : decode cX4_dropSign 54 = .ok (.invokevirtual 126, 3) := by decide +kernel
theorem dX4_dropSign_57 : decode cX4_dropSign 57 = .ok (.invokevirtual 69, 3) := by decide +kernel
theorem dX4_dropSign_60 : decode cX4_dropSign 60 = .ok (.return_, 1) := by decide +kernel
theorem dX4_choose_0 : decode cX4_choose 0 = .ok (.aload_n 0, 1) := by decide +kernel
theorem dX4_choose_1 : decode cX4_choose 1 = .ok (.invokevirtual 81, 3) := by decide +kernel
theorem dX4_choose_4 : decode cX4_choose 4 = .ok (.istore_n 2, 1) := by decide +kernel
theorem dX4_choose_5 : decode cX4_choose 5 = .ok (.aload_n 0, 1) := by decide +kernel
theorem dX4_choose_6 : decode cX4_choose 6 = .ok (.invokevirtual 81, 3) := by decide +kernel
theorem dX4_choose_9 : decode cX4_choose 9 = .ok (.istore_n 3, 1) := by decide +kernel
theorem dX4_choose_10 : decode cX4_choose 10 = .ok (.aload_n 0, 1) := by decide +kernel
theorem dX4_choose_11 : decode cX4_choose 11 = .ok (.getfield 24, 3) := by decide +kernel
theorem dX4_choose_14 : decode cX4_choose 14 = .ok (.iload_n 3, 1) := by decide +kernel
theorem dX4_choose_15 : decode cX4_choose 15 = .ok (.invokevirtual 88, 3) := by decide +kernel
theorem dX4_choose_18 : decode cX4_choose 18 = .ok (.lstore 4, 2) := by decide +kernel
theorem dX4_choose_20 : decode cX4_choose 20 = .ok (.aload_n 0, 1) := by decide +kernel
theorem dX4_choose_21 : decode cX4_choose 21 = .ok (.getfield 24, 3) := by decide +kernel
theorem dX4_choose_24 : decode cX4_choose 24 = .ok (.iload_n 2, 1) := by decide +kernel
theorem dX4_choose_25 : decode cX4_choose 25 = .ok (.invokevirtual 88, 3) := by decide +kernel
theorem dX4_choose_28 : decode cX4_choose 28 = .ok (.lstore 6, 2) := by decide +kernel
theorem dX4_choose_30 : decode cX4_choose 30 = .ok (.aload_n 0, 1) := by decide +kernel
theorem dX4_choose_31 : decode cX4_choose 31 = .ok (.getfield 24, 3) := by decide +kernel
theorem dX4_choose_34 : decode cX4_choose 34 = .ok (.lload 4, 2) := by decide +kernel
theorem dX4_choose_36 : decode cX4_choose 36 = .ok (.lload 6, 2) := by decide +kernel
theorem dX4_choose_38 : decode cX4_choose 38 = .ok (.invokevirtual 143, 3) := by decide +kernel
theorem dX4_choose_41 : decode cX4_choose 41 = .ok (.lload 4, 2) := by decide +kernel
theorem dX4_choose_43 : decode cX4_choose 43 = .ok (.lload 6, 2) := by decide +kernel
theorem dX4_choose_45 : decode cX4_choose 45 = .ok (.invokestatic 150, 3) := by decide +kernel
theorem dX4_choose_48 : decode cX4_choose 48 = .ok (.istore 8, 2) := by decide +kernel
theorem dX4_choose_50 : decode cX4_choose 50 = .ok (.iload_n 1, 1) := by decide +kernel
theorem dX4_choose_51 : decode cX4_choose 51 = .ok (.bipush 11, 2) := by decide +kernel
theorem dX4_choose_53 : decode cX4_choose 53 = .ok (.if_icmp .ne 16, 3) := by decide +kernel
theorem dX4_choose_56 : decode cX4_choose 56 = .ok (.iload 8, 2) := by decide +kernel
theorem dX4_choose_58 : decode cX4_choose 58 = .ok (.ifCond .le 7, 3) := by decide +kernel
theorem dX4_choose_61 : decode cX4_choose 61 = .ok (.iconst 1, 1) := by decide +kernel
theorem dX4_choose_62 : decode cX4_choose 62 = .ok (.goto 17, 3) := by decide +kernel
theorem dX4_choose_65 : decode cX4_choose 65 = .ok (.iconst 0, 1) := by decide +kernel
theorem dX4_choose_66 : decode cX4_choose 66 = .ok (.goto 13, 3) := by decide +kernel
theorem dX4_choose_69 : decode cX4_choose 69 = .ok (.iload 8, 2) := by decide +kernel
theorem dX4_choose_71 : decode cX4_choose 71 = .ok (.ifCond .ge 7, 3) := by decide +kernel
theorem dX4_choose_74 : decode cX4_choose 74 = .ok (.iconst 1, 1) := by decide +kernel
theorem dX4_choose_75 : decode cX4_choose 75 = .ok (.goto 4, 3) := by decide +kernel
theorem dX4_choose_78 : decode cX4_choose 78 = .ok (.iconst 0, 1) := by decide +kernel
theorem dX4_choose_79 : decode cX4_choose 79 = .ok (.istore 9, 2) := by decide +kernel
theorem dX4_choose_81 : decode cX4_choose 81 = .ok (.iload 9, 2) := by decide +kernel
theorem dX4_choose_83 : decode cX4_choose 83 = .ok (.ifCond .eq 7, 3) := by decide +kernel
theorem dX4_choose_86 : decode cX4_choose 86 = .ok (.iload_n 2, 1) := by decide +kernel
theorem dX4_choose_87 : decode cX4_choose 87 = .ok (.goto 4, 3) := by decide +kernel
theorem dX4_choose_90 : decode cX4_choose 90 = .ok (.iload_n 3, 1) := by decide +kernel
theorem dX4_choose_91 : decode cX4_choose 91 = .ok (.istore 10, 2) := by decide +kernel
theorem dX4_choose_93 : decode cX4_choose 93 = .ok (.aload_n 0, 1) := by decide +kernel
theorem dX4_choose_94 : decode cX4_choose 94 = .ok (.aload_n 0, 1) := by decide +kernel
theorem dX4_choose_95 : decode cX4_choose 95 = .ok (.getfield 24, 3) := by decide +kernel
theorem dX4_choose_98 : decode cX4_choose 98 = .ok (.bipush 30, 2) := by decide +kernel
theorem dX4_choose_100 : decode cX4_choose 100 = .ok (.iload 10, 2) := by decide +kernel
theorem dX4_choose_102 : decode cX4_choose 102 = .ok (.iload 10, 2) := by decide +kernel
theorem dX4_choose_104 : decode cX4_choose 104 = .ok (.iload 9, 2) := by decide +kernel
theorem dX4_choose_106 : decode cX4_choose 106 = .ok (.ifCond .eq 8, 3) := by decide +kernel
theorem dX4_choose_109 : decode cX4_choose 109 = .ok (.lload 6, 2) := by decide +kernel
theorem dX4_choose_111 : decode cX4_choose 111 = .ok (.goto 5, 3) := by decide +kernel
theorem dX4_choose_114 : decode cX4_choose 114 = .ok (.lload 4, 2) := by decide +kernel
theorem dX4_choose_116 : decode cX4_choose 116 = .ok (.invokevirtual 126, 3) := by decide +kernel
theorem dX4_choose_119 : decode cX4_choose 119 = .ok (.invokevirtual 69, 3) := by decide +kernel
theorem dX4_choose_122 : decode cX4_choose 122 = .ok (.return_, 1) := by decide +kernel
theorem dX4_compare_0 : decode cX4_compare 0 = .ok (.aload_n 0, 1) := by decide +kernel
theorem dX4_compare_1 : decode cX4_compare 1 = .ok (.getfield 24, 3) := by decide +kernel
theorem dX4_compare_4 : decode cX4_compare 4 = .ok (.aload_n 0, 1) := by decide +kernel
theorem dX4_compare_5 : decode cX4_compare 5 = .ok (.invokevirtual 81, 3) := by decide +kernel
theorem dX4_compare_8 : decode cX4_compare 8 = .ok (.invokevirtual 88, 3) := by decide +kernel
theorem dX4_compare_11 : decode cX4_compare 11 = .ok (.lstore_n 2, 1) := by decide +kernel
theorem dX4_compare_12 : decode cX4_compare 12 = .ok (.aload_n 0, 1) := by decide +kernel
theorem dX4_compare_13 : decode cX4_compare 13 = .ok (.getfield 24, 3) := by decide +kernel
theorem dX4_compare_16 : decode cX4_compare 16 = .ok (.aload_n 0, 1) := by decide +kernel
theorem dX4_compare_17 : decode cX4_compare 17 = .ok (.invokevirtual 81, 3) := by decide +kernel
theorem dX4_compare_20 : decode cX4_compare 20 = .ok (.invokevirtual 88, 3) := by decide +kernel
theorem dX4_compare_23 : decode cX4_compare 23 = .ok (.lstore 4, 2) := by decide +kernel
theorem dX4_compare_25 : decode cX4_compare 25 = .ok (.aload_n 0, 1) := by decide +kernel
theorem dX4_compare_26 : decode cX4_compare 26 = .ok (.getfield 24, 3) := by decide +kernel
theorem dX4_compare_29 : decode cX4_compare 29 = .ok (.lload 4, 2) := by decide +kernel
theorem dX4_compare_31 : decode cX4_compare 31 = .ok (.lload_n 2, 1) := by decide +kernel
theorem dX4_compare_32 : decode cX4_compare 32 = .ok (.invokevirtual 143, 3) := by decide +kernel
theorem dX4_compare_35 : decode cX4_compare 35 = .ok (.aload_n 0, 1) := by decide +kernel
theorem dX4_compare_36 : decode cX4_compare 36 = .ok (.getfield 24, 3) := by decide +kernel
theorem dX4_compare_39 : decode cX4_compare 39 = .ok (.dup, 1) := by decide +kernel
theorem dX4_compare_40 : decode cX4_compare 40 = .ok (.getfield 107, 3) := by decide +kernel
theorem dX4_compare_43 : decode cX4_compare 43 = .ok (.iconst 1, 1) := by decide +kernel
theorem dX4_compare_44 : decode cX4_compare 44 = .ok (.iadd, 1) := by decide +kernel
theorem dX4_compare_45 : decode cX4_compare 45 = .ok (.putfield 107, 3) := by decide +kernel
theorem dX4_compare_48 : decode cX4_compare 48 = .ok (.lload 4, 2) := by decide +kernel
theorem dX4_compare_50 : decode cX4_compare 50 = .ok (.lload_n 2, 1) := by decide +kernel
theorem dX4_compare_51 : decode cX4_compare 51 = .ok (.invokestatic 150, 3) := by decide +kernel
theorem dX4_compare_54 : decode cX4_compare 54 = .ok (.istore 6, 2) := by decide +kernel
theorem dX4_compare_56 : decode cX4_compare 56 = .ok (.iload_n 1, 1) := by decide +kernel
theorem dX4_compare_57 : decode cX4_compare 57 = .ok (.lookupswitch 61 #[(13, 27), (14, 44)], 27) := by decide +kernel
theorem dX4_compare_84 : decode cX4_compare 84 = .ok (.aload_n 0, 1) := by decide +kernel
theorem dX4_compare_85 : decode cX4_compare 85 = .ok (.iload 6, 2) := by decide +kernel
theorem dX4_compare_87 : decode cX4_compare 87 = .ok (.ifCond .ge 7, 3) := by decide +kernel
theorem dX4_compare_90 : decode cX4_compare 90 = .ok (.iconst 1, 1) := by decide +kernel
theorem dX4_compare_91 : decode cX4_compare 91 = .ok (.goto 4, 3) := by decide +kernel
theorem dX4_compare_94 : decode cX4_compare 94 = .ok (.iconst 0, 1) := by decide +kernel
theorem dX4_compare_95 : decode cX4_compare 95 = .ok (.invokevirtual 153, 3) := by decide +kernel
theorem dX4_compare_98 : decode cX4_compare 98 = .ok (.goto 34, 3) := by decide +kernel
theorem dX4_compare_101 : decode cX4_compare 101 = .ok (.aload_n 0, 1) := by decide +kernel
theorem dX4_compare_102 : decode cX4_compare 102 = .ok (.iload 6, 2) := by decide +kernel
theorem dX4_compare_104 : decode cX4_compare 104 = .ok (.ifCond .le 7, 3) := by decide +kernel
theorem dX4_compare_107 : decode cX4_compare 107 = .ok (.iconst 1, 1) := by decide +kernel
theorem dX4_compare_108 : decode cX4_compare 108 = .ok (.goto 4, 3) := by decide +kernel
theorem dX4_compare_111 : decode cX4_compare 111 = .ok (.iconst 0, 1) := by decide +kernel
theorem dX4_compare_112 : decode cX4_compare 112 = .ok (.invokevirtual 153, 3) := by decide +kernel
theorem dX4_compare_115 : decode cX4_compare 115 = .ok (.goto 17, 3) := by decide +kernel
theorem dX4_compare_118 : decode cX4_compare 118 = .ok (.aload_n 0, 1) := by decide +kernel
theorem dX4_compare_119 : decode cX4_compare 119 = .ok (.iload 6, 2) := by decide +kernel
theorem dX4_compare_121 : decode cX4_compare 121 = .ok (.ifCond .ne 7, 3) := by decide +kernel
theorem dX4_compare_124 : decode cX4_compare 124 = .ok (.iconst 1, 1) := by decide +kernel
theorem dX4_compare_125 : decode cX4_compare 125 = .ok (.goto 4, 3) := by decide +kernel
theorem dX4_compare_128 : decode cX4_compare 128 = .ok (.iconst 0, 1) := by decide +kernel
theorem dX4_compare_129 : decode cX4_compare 129 = .ok (.invokevirtual 153, 3) := by decide +kernel
theorem dX4_compare_132 : decode cX4_compare 132 = .ok (.return_, 1) := by decide +kernel
theorem dX4_step_0 : decode cX4_step 0 = .ok (.aload_n 0, 1) := by decide +kernel
theorem dX4_step_1 : decode cX4_step 1 = .ok (.getfield 24, 3) := by decide +kernel
theorem dX4_step_4 : decode cX4_step 4 = .ok (.getfield 107, 3) := by decide +kernel
theorem dX4_step_7 : decode cX4_step 7 = .ok (.sipush 1000, 3) := by decide +kernel
theorem dX4_step_10 : decode cX4_step 10 = .ok (.if_icmp .lt 14, 3) := by decide +kernel
theorem dX4_step_13 : decode cX4_step 13 = .ok (.aload_n 0, 1) := by decide +kernel
theorem dX4_step_14 : decode cX4_step 14 = .ok (.getfield 24, 3) := by decide +kernel
theorem dX4_step_17 : decode cX4_step 17 = .ok (.iconst 2, 1) := by decide +kernel
theorem dX4_step_18 : decode cX4_step 18 = .ok (.putfield 45, 3) := by decide +kernel
theorem dX4_step_21 : decode cX4_step 21 = .ok (.goto 49, 3) := by decide +kernel
theorem dX4_step_24 : decode cX4_step 24 = .ok (.iload_n 1, 1) := by decide +kernel
theorem dX4_step_25 : decode cX4_step 25 = .ok (.bipush 9, 2) := by decide +kernel
theorem dX4_step_27 : decode cX4_step 27 = .ok (.if_icmp .gt 11, 3) := by decide +kernel
theorem dX4_step_30 : decode cX4_step 30 = .ok (.aload_n 0, 1) := by decide +kernel
theorem dX4_step_31 : decode cX4_step 31 = .ok (.iload_n 1, 1) := by decide +kernel
theorem dX4_step_32 : decode cX4_step 32 = .ok (.invokevirtual 110, 3) := by decide +kernel
theorem dX4_step_35 : decode cX4_step 35 = .ok (.goto 35, 3) := by decide +kernel
theorem dX4_step_38 : decode cX4_step 38 = .ok (.iload_n 1, 1) := by decide +kernel
theorem dX4_step_39 : decode cX4_step 39 = .ok (.bipush 10, 2) := by decide +kernel
theorem dX4_step_41 : decode cX4_step 41 = .ok (.if_icmp .ne 10, 3) := by decide +kernel
theorem dX4_step_44 : decode cX4_step 44 = .ok (.aload_n 0, 1) := by decide +kernel
theorem dX4_step_45 : decode cX4_step 45 = .ok (.invokevirtual 113, 3) := by decide +kernel
theorem dX4_step_48 : decode cX4_step 48 = .ok (.goto 22, 3) := by decide +kernel
theorem dX4_step_51 : decode cX4_step 51 = .ok (.iload_n 1, 1) := by decide +kernel
theorem dX4_step_52 : decode cX4_step 52 = .ok (.bipush 12, 2) := by decide +kernel
theorem dX4_step_54 : decode cX4_step 54 = .ok (.if_icmp .gt 11, 3) := by decide +kernel
theorem dX4_step_57 : decode cX4_step 57 = .ok (.aload_n 0, 1) := by decide +kernel
theorem dX4_step_58 : decode cX4_step 58 = .ok (.iload_n 1, 1) := by decide +kernel
theorem dX4_step_59 : decode cX4_step 59 = .ok (.invokevirtual 116, 3) := by decide +kernel
theorem dX4_step_62 : decode cX4_step 62 = .ok (.goto 8, 3) := by decide +kernel
theorem dX4_step_65 : decode cX4_step 65 = .ok (.aload_n 0, 1) := by decide +kernel
theorem dX4_step_66 : decode cX4_step 66 = .ok (.iload_n 1, 1) := by decide +kernel
theorem dX4_step_67 : decode cX4_step 67 = .ok (.invokevirtual 119, 3) := by decide +kernel
theorem dX4_step_70 : decode cX4_step 70 = .ok (.return_, 1) := by decide +kernel
theorem dX4_moveData_0 : decode cX4_moveData 0 = .ok (.iload_n 1, 1) := by decide +kernel
theorem dX4_moveData_1 : decode cX4_moveData 1 = .ok (.tableswitch 90 0 4 #[35, 50, 58, 70, 78], 35) := by decide +kernel
theorem dX4_moveData_36 : decode cX4_moveData 36 = .ok (.aload_n 0, 1) := by decide +kernel
theorem dX4_moveData_37 : decode cX4_moveData 37 = .ok (.aload_n 0, 1) := by decide +kernel
theorem dX4_moveData_38 : decode cX4_moveData 38 = .ok (.getfield 24, 3) := by decide +kernel
theorem dX4_moveData_41 : decode cX4_moveData 41 = .ok (.iload_n 2, 1) := by decide +kernel
theorem dX4_moveData_42 : decode cX4_moveData 42 = .ok (.invokevirtual 66, 3) := by decide +kernel
theorem dX4_moveData_45 : decode cX4_moveData 45 = .ok (.invokevirtual 69, 3) := by decide +kernel
theorem dX4_moveData_48 : decode cX4_moveData 48 = .ok (.goto 65, 3) := by decide +kernel
theorem dX4_moveData_51 : decode cX4_moveData 51 = .ok (.aload_n 0, 1) := by decide +kernel
theorem dX4_moveData_52 : decode cX4_moveData 52 = .ok (.iload_n 2, 1) := by decide +kernel
theorem dX4_moveData_53 : decode cX4_moveData 53 = .ok (.invokevirtual 72, 3) := by decide +kernel
theorem dX4_moveData_56 : decode cX4_moveData 56 = .ok (.goto 57, 3) := by decide +kernel
theorem dX4_moveData_59 : decode cX4_moveData 59 = .ok (.aload_n 0, 1) := by decide +kernel
theorem dX4_moveData_60 : decode cX4_moveData 60 = .ok (.aload_n 0, 1) := by decide +kernel
theorem dX4_moveData_61 : decode cX4_moveData 61 = .ok (.iload_n 2, 1) := by decide +kernel
theorem dX4_moveData_62 : decode cX4_moveData 62 = .ok (.invokevirtual 75, 3) := by decide +kernel
theorem dX4_moveData_65 : decode cX4_moveData 65 = .ok (.invokevirtual 72, 3) := by decide +kernel
theorem dX4_moveData_68 : decode cX4_moveData 68 = .ok (.goto 45, 3) := by decide +kernel
theorem dX4_moveData_71 : decode cX4_moveData 71 = .ok (.aload_n 0, 1) := by decide +kernel
theorem dX4_moveData_72 : decode cX4_moveData 72 = .ok (.iload_n 2, 1) := by decide +kernel
theorem dX4_moveData_73 : decode cX4_moveData 73 = .ok (.invokevirtual 78, 3) := by decide +kernel
theorem dX4_moveData_76 : decode cX4_moveData 76 = .ok (.goto 37, 3) := by decide +kernel
theorem dX4_moveData_79 : decode cX4_moveData 79 = .ok (.aload_n 0, 1) := by decide +kernel
theorem dX4_moveData_80 : decode cX4_moveData 80 = .ok (.aload_n 0, 1) := by decide +kernel
theorem dX4_moveData_81 : decode cX4_moveData 81 = .ok (.iload_n 2, 1) := by decide +kernel
theorem dX4_moveData_82 : decode cX4_moveData 82 = .ok (.invokevirtual 75, 3) := by decide +kernel
theorem dX4_moveData_85 : decode cX4_moveData 85 = .ok (.invokevirtual 78, 3) := by decide +kernel
theorem dX4_moveData_88 : decode cX4_moveData 88 = .ok (.goto 25, 3) := by decide +kernel
theorem dX4_moveData_91 : decode cX4_moveData 91 = .ok (.aload_n 0, 1) := by decide +kernel
theorem dX4_moveData_92 : decode cX4_moveData 92 = .ok (.getfield 24, 3) := by decide +kernel
theorem dX4_moveData_95 : decode cX4_moveData 95 = .ok (.aload_n 0, 1) := by decide +kernel
theorem dX4_moveData_96 : decode cX4_moveData 96 = .ok (.invokevirtual 81, 3) := by decide +kernel
theorem dX4_moveData_99 : decode cX4_moveData 99 = .ok (.invokevirtual 84, 3) := by decide +kernel
theorem dX4_moveData_102 : decode cX4_moveData 102 = .ok (.ifCond .ne 11, 3) := by decide +kernel
theorem dX4_moveData_105 : decode cX4_moveData 105 = .ok (.aload_n 0, 1) := by decide +kernel
theorem dX4_moveData_106 : decode cX4_moveData 106 = .ok (.getfield 24, 3) := by decide +kernel
theorem dX4_moveData_109 : decode cX4_moveData 109 = .ok (.iconst 1, 1) := by decide +kernel
theorem dX4_moveData_110 : decode cX4_moveData 110 = .ok (.putfield 45, 3) := by decide +kernel
theorem dX4_moveData_113 : decode cX4_moveData 113 = .ok (.return_, 1) := by decide +kernel
theorem dX4_decide_0 : decode cX4_decide 0 = .ok (.iload_n 1, 1) := by decide +kernel
theorem dX4_decide_1 : decode cX4_decide 1 = .ok (.tableswitch 91 16 19 #[31, 44, 60, 76], 31) := by decide +kernel
theorem dX4_decide_32 : decode cX4_decide 32 = .ok (.aload_n 0, 1) := by decide +kernel
theorem dX4_decide_33 : decode cX4_decide 33 = .ok (.iconst 1, 1) := by decide +kernel
theorem dX4_decide_34 : decode cX4_decide 34 = .ok (.aload_n 0, 1) := by decide +kernel
theorem dX4_decide_35 : decode cX4_decide 35 = .ok (.invokevirtual 81, 3) := by decide +kernel
theorem dX4_decide_38 : decode cX4_decide 38 = .ok (.isub, 1) := by decide +kernel
theorem dX4_decide_39 : decode cX4_decide 39 = .ok (.invokevirtual 69, 3) := by decide +kernel
theorem dX4_decide_42 : decode cX4_decide 42 = .ok (.goto 55, 3) := by decide +kernel
theorem dX4_decide_45 : decode cX4_decide 45 = .ok (.aload_n 0, 1) := by decide +kernel
theorem dX4_decide_46 : decode cX4_decide 46 = .ok (.aload_n 0, 1) := by decide +kernel
theorem dX4_decide_47 : decode cX4_decide 47 = .ok (.invokevirtual 81, 3) := by decide +kernel
theorem dX4_decide_50 : decode cX4_decide 50 = .ok (.aload_n 0, 1) := by decide +kernel
theorem dX4_decide_51 : decode cX4_decide 51 = .ok (.invokevirtual 81, 3) := by decide +kernel
theorem dX4_decide_54 : decode cX4_decide 54 = .ok (.iand, 1) := by decide +kernel
theorem dX4_decide_55 : decode cX4_decide 55 = .ok (.invokevirtual 69, 3) := by decide +kernel
theorem dX4_decide_58 : decode cX4_decide 58 = .ok (.goto 39, 3) := by decide +kernel
theorem dX4_decide_61 : decode cX4_decide 61 = .ok (.aload_n 0, 1) := by decide +kernel
theorem dX4_decide_62 : decode cX4_decide 62 = .ok (.aload_n 0, 1) := by decide +kernel
theorem dX4_decide_63 : decode cX4_decide 63 = .ok (.invokevirtual 81, 3) := by decide +kernel
theorem dX4_decide_66 : decode cX4_decide 66 = .ok (.aload_n 0, 1) := by decide +kernel
theorem dX4_decide_67 : decode cX4_decide 67 = .ok (.invokevirtual 81, 3) := by decide +kernel
theorem dX4_decide_70 : decode cX4_decide 70 = .ok (.ior, 1) := by decide +kernel
theorem dX4_decide_71 : decode cX4_decide 71 = .ok (.invokevirtual 69, 3) := by decide +kernel
theorem dX4_decide_74 : decode cX4_decide 74 = .ok (.goto 23, 3) := by decide +kernel
theorem dX4_decide_77 : decode cX4_decide 77 = .ok (.aload_n 0, 1) := by decide +kernel
theorem dX4_decide_78 : decode cX4_decide 78 = .ok (.invokevirtual 81, 3) := by decide +kernel
theorem dX4_decide_81 : decode cX4_decide 81 = .ok (.ifCond .ne 16, 3) := by decide +kernel
theorem dX4_decide_84 : decode cX4_decide 84 = .ok (.aload_n 0, 1) := by decide +kernel
theorem dX4_decide_85 : decode cX4_decide 85 = .ok (.iload_n 2, 1) := by decide +kernel
theorem dX4_decide_86 : decode cX4_decide 86 = .ok (.putfield 32, 3) := by decide +kernel
theorem dX4_decide_89 : decode cX4_decide 89 = .ok (.goto 8, 3) := by decide +kernel
theorem dX4_decide_92 : decode cX4_decide 92 = .ok (.aload_n 0, 1) := by decide +kernel
theorem dX4_decide_93 : decode cX4_decide 93 = .ok (.iload_n 2, 1) := by decide +kernel
theorem dX4_decide_94 : decode cX4_decide 94 = .ok (.putfield 32, 3) := by decide +kernel
theorem dX4_decide_97 : decode cX4_decide 97 = .ok (.return_, 1) := by decide +kernel
theorem dX4_play_0 : decode cX4_play 0 = .ok (.aload_n 0, 1) := by decide +kernel
theorem dX4_play_1 : decode cX4_play 1 = .ok (.aload_n 1, 1) := by decide +kernel
theorem dX4_play_2 : decode cX4_play 2 = .ok (.putfield 20, 3) := by decide +kernel
theorem dX4_play_5 : decode cX4_play 5 = .ok (.aload_n 0, 1) := by decide +kernel
theorem dX4_play_6 : decode cX4_play 6 = .ok (.aload_n 2, 1) := by decide +kernel
theorem dX4_play_7 : decode cX4_play 7 = .ok (.putfield 24, 3) := by decide +kernel
theorem dX4_play_10 : decode cX4_play 10 = .ok (.aload_n 0, 1) := by decide +kernel
theorem dX4_play_11 : decode cX4_play 11 = .ok (.iconst 0, 1) := by decide +kernel
theorem dX4_play_12 : decode cX4_play 12 = .ok (.putfield 28, 3) := by decide +kernel
theorem dX4_play_15 : decode cX4_play 15 = .ok (.aload_n 0, 1) := by decide +kernel
theorem dX4_play_16 : decode cX4_play 16 = .ok (.iconst 0, 1) := by decide +kernel
theorem dX4_play_17 : decode cX4_play 17 = .ok (.putfield 32, 3) := by decide +kernel
theorem dX4_play_20 : decode cX4_play 20 = .ok (.iconst 0, 1) := by decide +kernel
theorem dX4_play_21 : decode cX4_play 21 = .ok (.istore_n 3, 1) := by decide +kernel
theorem dX4_play_22 : decode cX4_play 22 = .ok (.iload_n 3, 1) := by decide +kernel
theorem dX4_play_23 : decode cX4_play 23 = .ok (.aload_n 0, 1) := by decide +kernel
theorem dX4_play_24 : decode cX4_play 24 = .ok (.getfield 17, 3) := by decide +kernel
theorem dX4_play_27 : decode cX4_play 27 = .ok (.arraylength, 1) := by decide +kernel
theorem dX4_play_28 : decode cX4_play 28 = .ok (.if_icmp .ge 37, 3) := by decide +kernel
theorem dX4_play_31 : decode cX4_play 31 = .ok (.aload_n 0, 1) := by decide +kernel
theorem dX4_play_32 : decode cX4_play 32 = .ok (.getfield 17, 3) := by decide +kernel
theorem dX4_play_35 : decode cX4_play 35 = .ok (.iload_n 3, 1) := by decide +kernel
theorem dX4_play_36 : decode cX4_play 36 = .ok (.iload_n 3, 1) := by decide +kernel
theorem dX4_play_37 : decode cX4_play 37 = .ok (.aload_n 0, 1) := by decide +kernel
theorem dX4_play_38 : decode cX4_play 38 = .ok (.getfield 20, 3) := by decide +kernel
theorem dX4_play_41 : decode cX4_play 41 = .ok (.getfield 35, 3) := by decide +kernel
theorem dX4_play_44 : decode cX4_play 44 = .ok (.if_icmp .ge 7, 3) := by decide +kernel
theorem dX4_play_47 : decode cX4_play 47 = .ok (.iload_n 3, 1) := by decide +kernel
theorem dX4_play_48 : decode cX4_play 48 = .ok (.goto 10, 3) := by decide +kernel
theorem dX4_play_51 : decode cX4_play 51 = .ok (.aload_n 0, 1) := by decide +kernel
theorem dX4_play_52 : decode cX4_play 52 = .ok (.getfield 24, 3) := by decide +kernel
theorem dX4_play_55 : decode cX4_play 55 = .ok (.invokevirtual 38, 3) := by decide +kernel
theorem dX4_play_58 : decode cX4_play 58 = .ok (.iastore, 1) := by decide +kernel
theorem dX4_play_59 : decode cX4_play 59 = .ok (.iinc 3 1, 3) := by decide +kernel
theorem dX4_play_62 : decode cX4_play 62 = .ok (.goto (-40), 3) := by decide +kernel
theorem dX4_play_65 : decode cX4_play 65 = .ok (.iconst 0, 1) := by decide +kernel
theorem dX4_play_66 : decode cX4_play 66 = .ok (.istore_n 3, 1) := by decide +kernel
theorem dX4_play_67 : decode cX4_play 67 = .ok (.iload_n 3, 1) := by decide +kernel
theorem dX4_play_68 : decode cX4_play 68 = .ok (.ldc 44, 2) := by decide +kernel
theorem dX4_play_70 : decode cX4_play 70 = .ok (.if_icmp .ge 115, 3) := by decide +kernel
theorem dX4_play_73 : decode cX4_play 73 = .ok (.aload_n 0, 1) := by decide +kernel
theorem dX4_play_74 : decode cX4_play 74 = .ok (.getfield 24, 3) := by decide +kernel
theorem dX4_play_77 : decode cX4_play 77 = .ok (.getfield 45, 3) := by decide +kernel
theorem dX4_play_80 : decode cX4_play 80 = .ok (.bipush (-2), 2) := by decide +kernel
theorem dX4_play_82 : decode cX4_play 82 = .ok (.if_icmp .ne 103, 3) := by decide +kernel
theorem dX4_play_85 : decode cX4_play 85 = .ok (.aload_n 0, 1) := by decide +kernel
theorem dX4_play_86 : decode cX4_play 86 = .ok (.getfield 20, 3) := by decide +kernel
theorem dX4_play_89 : decode cX4_play 89 = .ok (.aload_n 0, 1) := by decide +kernel
theorem dX4_play_90 : decode cX4_play 90 = .ok (.getfield 32, 3) := by decide +kernel
theorem dX4_play_93 : decode cX4_play 93 = .ok (.invokevirtual 48, 3) := by decide +kernel
theorem dX4_play_96 : decode cX4_play 96 = .ok (.istore 4, 2) := by decide +kernel
theorem dX4_play_98 : decode cX4_play 98 = .ok (.aload_n 0, 1) := by decide +kernel
theorem dX4_play_99 : decode cX4_play 99 = .ok (.getfield 20, 3) := by decide +kernel
theorem dX4_play_102 : decode cX4_play 102 = .ok (.aload_n 0, 1) := by decide +kernel
theorem dX4_play_103 : decode cX4_play 103 = .ok (.getfield 32, 3) := by decide +kernel
theorem dX4_play_106 : decode cX4_play 106 = .ok (.invokevirtual 52, 3) := by decide +kernel
theorem dX4_play_109 : decode cX4_play 109 = .ok (.istore 5, 2) := by decide +kernel
theorem dX4_play_111 : decode cX4_play 111 = .ok (.aload_n 0, 1) := by decide +kernel
theorem dX4_play_112 : decode cX4_play 112 = .ok (.dup, 1) := by decide +kernel
theorem dX4_play_113 : decode cX4_play 113 = .ok (.getfield 32, 3) := by decide +kernel
theorem dX4_play_116 : decode cX4_play 116 = .ok (.iconst 1, 1) := by decide +kernel
theorem dX4_play_117 : decode cX4_play 117 = .ok (.iadd, 1) := by decide +kernel
theorem dX4_play_118 : decode cX4_play 118 = .ok (.putfield 32, 3) := by decide +kernel
theorem dX4_play_121 : decode cX4_play 121 = .ok (.iload 4, 2) := by decide +kernel
theorem dX4_play_123 : decode cX4_play 123 = .ok (.iconst (-1), 1) := by decide +kernel
theorem dX4_play_124 : decode cX4_play 124 = .ok (.if_icmp .ne 14, 3) := by decide +kernel
theorem dX4_play_127 : decode cX4_play 127 = .ok (.aload_n 0, 1) := by decide +kernel
theorem dX4_play_128 : decode cX4_play 128 = .ok (.getfield 24, 3) := by decide +kernel
theorem dX4_play_131 : decode cX4_play 131 = .ok (.iconst 0, 1) := by decide +kernel
theorem dX4_play_132 : decode cX4_play 132 = .ok (.putfield 45, 3) := by decide +kernel
theorem dX4_play_135 : decode cX4_play 135 = .ok (.goto 44, 3) := by decide +kernel
theorem dX4_play_138 : decode cX4_play 138 = .ok (.iload 4, 2) := by decide +kernel
theorem dX4_play_140 : decode cX4_play 140 = .ok (.iconst 5, 1) := by decide +kernel
theorem dX4_play_141 : decode cX4_play 141 = .ok (.if_icmp .gt 14, 3) := by decide +kernel
theorem dX4_play_144 : decode cX4_play 144 = .ok (.aload_n 0, 1) := by decide +kernel
theorem dX4_play_145 : decode cX4_play 145 = .ok (.iload 4, 2) := by decide +kernel
theorem dX4_play_147 : decode cX4_play 147 = .ok (.iload 5, 2) := by decide +kernel
theorem dX4_play_149 : decode cX4_play 149 = .ok (.invokevirtual 55, 3) := by decide +kernel
theorem dX4_play_152 : decode cX4_play 152 = .ok (.goto 27, 3) := by decide +kernel
theorem dX4_play_155 : decode cX4_play 155 = .ok (.iload 4, 2) := by decide +kernel
theorem dX4_play_157 : decode cX4_play 157 = .ok (.bipush 15, 2) := by decide +kernel
theorem dX4_play_159 : decode cX4_play 159 = .ok (.if_icmp .gt 12, 3) := by decide +kernel
theorem dX4_play_162 : decode cX4_play 162 = .ok (.aload_n 0, 1) := by decide +kernel
theorem dX4_play_163 : decode cX4_play 163 = .ok (.iload 4, 2) := by decide +kernel
theorem dX4_play_165 : decode cX4_play 165 = .ok (.invokevirtual 59, 3) := by decide +kernel
theorem dX4_play_168 : decode cX4_play 168 = .ok (.goto 11, 3) := by decide +kernel
theorem dX4_play_171 : decode cX4_play 171 = .ok (.aload_n 0, 1) := by decide +kernel
theorem dX4_play_172 : decode cX4_play 172 = .ok (.iload 4, 2) := by decide +kernel
theorem dX4_play_174 : decode cX4_play 174 = .ok (.iload 5, 2) := by decide +kernel
theorem dX4_play_176 : decode cX4_play 176 = .ok (.invokevirtual 63, 3) := by decide +kernel
theorem dX4_play_179 : decode cX4_play 179 = .ok (.iinc 3 1, 3) := by decide +kernel
theorem dX4_play_182 : decode cX4_play 182 = .ok (.goto (-115), 3) := by decide +kernel
theorem dX4_play_185 : decode cX4_play 185 = .ok (.aload_n 0, 1) := by decide +kernel
theorem dX4_play_186 : decode cX4_play 186 = .ok (.getfield 24, 3) := by decide +kernel
theorem dX4_play_189 : decode cX4_play 189 = .ok (.getfield 45, 3) := by decide +kernel
theorem dX4_play_192 : decode cX4_play 192 = .ok (.ireturn, 1) := by decide +kernel
def v_k_worked : List Cond := .code yX4_worked cX4_worked 5 (some .long) :: ([] ++ ((va_wsS RX4 130 yX0_plus v_k_plus) ++ ((va_wsS RX4 134 yX0_minus v_k_minus) ++ ((va_wsS RX4 137 yX0_times v_k_times) ++ (va_wsS RX4 140 yX0_over v_k_over)))))
theorem g_k_worked_0 : GoodIn v_k_worked (va_wsS RX4 130 yX0_plus v_k_plus) := goodIn_sub (fun w h => List.mem_cons_of_mem _ (List.mem_append_right _ (List.mem_append_left _ h))) (by decide +kernel)
theorem g_k_worked_1 : GoodIn v_k_worked (va_wsS RX4 134 yX0_minus v_k_minus) := goodIn_sub (fun w h => List.mem_cons_of_mem _ (List.mem_append_right _ (List.mem_append_right _ (List.mem_append_left _ h)))) (by decide +kernel)
theorem g_k_worked_2 : GoodIn v_k_worked (va_wsS RX4 137 yX0_times v_k_times) := goodIn_sub (fun w h => List.mem_cons_of_mem _ (List.mem_append_right _ (List.mem_append_right _ (List.mem_append_right _ (List.mem_append_left _ h))))) (by decide +kernel)
theorem g_k_worked_3 : GoodIn v_k_worked (va_wsS RX4 140 yX0_over v_k_over) := goodIn_sub (fun w h => List.mem_cons_of_mem _ (List.mem_append_right _ (List.mem_append_right _ (List.mem_append_right _ (List.mem_append_right _ h))))) (by decide +kernel)
set_option maxHeartbeats 4000000 in
set_option maxRecDepth 100000 in
theorem k_worked (l : Launch) (D : va_G) (y : Nat → ClassId) (sz : Nat) (k : Int32) (x z : Int64) : Met l yX4_worked v_k_worked ({ frames := 3, cells := 0, slots := 0, locals := 92 } : Room) (va_Pc [.int k, .long x, .long z] (xPre D (xT y) [] sz)) (va_Ql (fun (r : Int64) (_ : Unit) => True) (fun (u : Unit) => xB D (xT y) (va_A [] sz) []) (va_A [] sz)) 0 0 (va_A [] sz) := by
  refine x_metl (cc := cX4_worked) (maxL := 5) (by decide) rfl (Nat.le_of_ble_eq_true rfl) ?_
  intro p e s m below meth c A H locs Q hx hb hml hown hts hr hlocks hmn hA hP hK hD hS ls hl hQ
  have hl : lv_has ls 5 [(0, .int k), (1, .long x), (3, .long z)] := hl
  refine lv_iload_n hx hb dX4_worked_0 rfl (lv_at hl 0 rfl) ?_
  rcases (show k = 6 ∨ k = 7 ∨ k = 8 ∨ (k.toInt < 6 ∨ 8 < k.toInt) by simp only [x_eq, Int32.reduceToInt]; omega) with rfl | rfl | rfl | g_1
  · refine lv_tableIn (tgt := 28) hx hb dX4_worked_1 (by decide) (by decide) rfl (by decide) ?_
    refine lv_lload_n hx hb dX4_worked_28 rfl (lv_at hl 1 rfl) ?_
    refine lv_lload_n hx hb dX4_worked_29 rfl (lv_at hl 2 rfl) ?_
    refine x_calllN (va_runS (As := [.long x, .long z]) (rest := []) ⟨hx, hb, hml, hown, hts⟩ (k_plus l D y H.size x z) (va_cwS 2 hts g_k_worked_0 rfl rfl rfl (by decide +kernel) ⟨Nat.le_of_ble_eq_true rfl, Nat.le_of_ble_eq_true rfl⟩) (x_preS hK (x_nilP D H) (x_nilD A)) rfl rfl hl.1 rfl (lv_room (Nat.le_of_ble_eq_true rfl)) dX4_worked_30 ⟨Nat.le_of_ble_eq_true rfl, Nat.le_of_ble_eq_true rfl⟩) hP hD hS hA (fun r_2 u H locs hw hP hD hS => ?_)
    try dsimp only at hw
    exact x_lretW (v := r_2) (u := ()) hx hb hr hQ trivial (x_nilP D H) (x_nilD A) hK hS dX4_worked_33 hlocks
  · refine lv_tableIn (tgt := 34) hx hb dX4_worked_1 (by decide) (by decide) rfl (by decide) ?_
    refine lv_lload_n hx hb dX4_worked_34 rfl (lv_at hl 1 rfl) ?_
    refine lv_lload_n hx hb dX4_worked_35 rfl (lv_at hl 2 rfl) ?_
    refine x_calllN (va_runS (As := [.long x, .long z]) (rest := []) ⟨hx, hb, hml, hown, hts⟩ (k_minus l D y H.size x z) (va_cwS 2 hts g_k_worked_1 rfl rfl rfl (by decide +kernel) ⟨Nat.le_of_ble_eq_true rfl, Nat.le_of_ble_eq_true rfl⟩) (x_preS hK (x_nilP D H) (x_nilD A)) rfl rfl hl.1 rfl (lv_room (Nat.le_of_ble_eq_true rfl)) dX4_worked_36 ⟨Nat.le_of_ble_eq_true rfl, Nat.le_of_ble_eq_true rfl⟩) hP hD hS hA (fun r_3 u H locs hw hP hD hS => ?_)
    try dsimp only at hw
    exact x_lretW (v := r_3) (u := ()) hx hb hr hQ trivial (x_nilP D H) (x_nilD A) hK hS dX4_worked_39 hlocks
  · refine lv_tableIn (tgt := 40) hx hb dX4_worked_1 (by decide) (by decide) rfl (by decide) ?_
    refine lv_lload_n hx hb dX4_worked_40 rfl (lv_at hl 1 rfl) ?_
    refine lv_lload_n hx hb dX4_worked_41 rfl (lv_at hl 2 rfl) ?_
    refine x_calllN (va_runS (As := [.long x, .long z]) (rest := []) ⟨hx, hb, hml, hown, hts⟩ (k_times l D y H.size x z) (va_cwS 2 hts g_k_worked_2 rfl rfl rfl (by decide +kernel) ⟨Nat.le_of_ble_eq_true rfl, Nat.le_of_ble_eq_true rfl⟩) (x_preS hK (x_nilP D H) (x_nilD A)) rfl rfl hl.1 rfl (lv_room (Nat.le_of_ble_eq_true rfl)) dX4_worked_42 ⟨Nat.le_of_ble_eq_true rfl, Nat.le_of_ble_eq_true rfl⟩) hP hD hS hA (fun r_4 u H locs hw hP hD hS => ?_)
    try dsimp only at hw
    exact x_lretW (v := r_4) (u := ()) hx hb hr hQ trivial (x_nilP D H) (x_nilD A) hK hS dX4_worked_45 hlocks
  · refine lv_tableOut (tgt := 46) hx hb dX4_worked_1 g_1 (by decide) ?_
    refine lv_lload_n hx hb dX4_worked_46 rfl (lv_at hl 1 rfl) ?_
    refine lv_lload_n hx hb dX4_worked_47 rfl (lv_at hl 2 rfl) ?_
    refine x_calllN (va_runS (As := [.long x, .long z]) (rest := []) ⟨hx, hb, hml, hown, hts⟩ (k_over l D y H.size x z) (va_cwS 2 hts g_k_worked_3 rfl rfl rfl (by decide +kernel) ⟨Nat.le_of_ble_eq_true rfl, Nat.le_of_ble_eq_true rfl⟩) (x_preS hK (x_nilP D H) (x_nilD A)) rfl rfl hl.1 rfl (lv_room (Nat.le_of_ble_eq_true rfl)) dX4_worked_48 ⟨Nat.le_of_ble_eq_true rfl, Nat.le_of_ble_eq_true rfl⟩) hP hD hS hA (fun r_5 u H locs hw hP hD hS => ?_)
    try dsimp only at hw
    exact x_lretW (v := r_5) (u := ()) hx hb hr hQ trivial (x_nilP D H) (x_nilD A) hK hS dX4_worked_51 hlocks

def v_mc_push : List Cond := .code yX4_push cX4_push 2 none :: ([.fieldLink RX4 28 "SlopeRunner$Machine" "top" "I", .fieldLink RX4 13 "SlopeRunner$Machine" "stack" "[I"] ++ wsX40)
set_option maxHeartbeats 4000000 in
set_option maxRecDepth 100000 in
theorem mc_push (l : Launch) (D : va_G) (y : Nat → ClassId) (sz : Nat) (ad : Nat → Nat) (σ : OS) (x : Int32) (htop0 : 0 ≤ (σ.1 115).toInt) (htop1 : (σ.1 115).toInt ≤ 64) : Met l yX4_push v_mc_push ({ frames := 0, cells := 0, slots := 0, locals := 0 } : Room) (va_Pc [.ref (ad 110), .int x] (xPre D (xT y) (mcw y ad σ) sz)) (va_Qv (fun (u : (Nat → Int32) × Int32) => 0 ≤ u.2.toInt ∧ u.2.toInt ≤ 64) (fun (u : (Nat → Int32) × Int32) => xB D (xT y) (va_A (mcw y ad σ) sz) (mcw y ad (sI (tI σ 111 u.1) 115 u.2))) (va_A (mcw y ad σ) sz)) 0 0 (va_A (mcw y ad σ) sz) := by
  refine x_metv (cc := cX4_push) (maxL := 2) (by decide) rfl (Nat.le_of_ble_eq_true rfl) ?_
  intro p e s m below meth c A H locs Q hx hb hml hown hts hr hlocks hmn hA hP hK hD hS ls hl hQ
  have hl : lv_has ls 2 [(0, .ref (ad 110)), (1, .int x)] := hl
  have fl28 := hts (.fieldLink RX4 28 "SlopeRunner$Machine" "top" "I") (List.mem_of_getElem? (i := 1) rfl)
  have inX4 : ∀ w ∈ wsX40, w ∈ v_mc_push := (fun w h => List.mem_cons_of_mem _ (List.mem_append_right _ h))
  have kk_64 : (64 : Int32).toInt = 64 := rfl
  have fl13 := hts (.fieldLink RX4 13 "SlopeRunner$Machine" "stack" "[I") (List.mem_of_getElem? (i := 2) rfl)
  have kk_1 : (1 : Int32).toInt = 1 := rfl
  refine lv_aload_n hx hb dX4_push_0 rfl (lv_at hl 0 rfl) ?_
  refine va_get (D := D) (ci := 3) (v := .int (σ.1 115)) (C := RX4) (T := TX4) (N := 6) hx hb hts inX4 hown hK hP 0 mcw_o0 rfl 4 (by decide) fl28 (fun _ h9 => h9) rfl dX4_push_1 ?_
  refine lv_bipush (v := 64) hx hb dX4_push_4 (by decide) ?_
  refine lv_icmp_ge (tgt := 29) hx hb dX4_push_6 (by decide) (fun c_1 => ?_) (fun c_1 => ?_)
  · have kc_1 : (σ.1 115).toInt ≥ 64 := by have h9 := c_1; simp only [ge_iff_le, gt_iff_lt, x_lt, x_le, x_eq, ne_eq, Int32.not_lt, Int32.not_le] at h9; simp only [Int32.reduceToInt] at h9; omega
    have hP : va_P D vwCl (mcw y ad (sI (tI σ 111 (σ.2.2.1 111)) 115 (σ.1 115))) H := hP
    have hD : va_D A (mcw y ad (sI (tI σ 111 (σ.2.2.1 111)) 115 (σ.1 115))) := hD
    exact x_vretW (u := ((σ.2.2.1 111), (σ.1 115))) hx hb hr hQ (by (try dsimp only); exact ⟨by omega, by omega⟩) hP hD hK hS dX4_push_29 hlocks
  · have kc_1 : (σ.1 115).toInt < 64 := by have h9 := c_1; simp only [ge_iff_le, gt_iff_lt, x_lt, x_le, x_eq, ne_eq, Int32.not_lt, Int32.not_le] at h9; simp only [Int32.reduceToInt] at h9; omega
    refine lv_aload_n hx hb dX4_push_9 rfl (lv_at hl 0 rfl) ?_
    refine va_get (D := D) (ci := 3) (v := .ref (ad 111)) (C := RX4) (T := TX4) (N := 6) hx hb hts inX4 hown hK hP 0 mcw_o0 rfl 0 (by decide) fl13 (fun _ h9 => h9) rfl dX4_push_10 ?_
    refine lv_aload_n hx hb dX4_push_13 rfl (lv_at hl 0 rfl) ?_
    refine va_get (D := D) (ci := 3) (v := .int (σ.1 115)) (C := RX4) (T := TX4) (N := 6) hx hb hts inX4 hown hK hP 0 mcw_o0 rfl 4 (by decide) fl28 (fun _ h9 => h9) rfl dX4_push_14 ?_
    refine lv_iload_n hx hb dX4_push_17 rfl (lv_at hl 1 rfl) ?_
    refine va_iast hx hb hK hP hD hS 3 2 mcw_a3 rfl (x_in (by omega) (by omega)) dX4_push_18 (fun H locs hP hD hS => ?_)
    obtain ⟨f_2, ef_2⟩ : ∃ z9 : Nat → Int32, z9 = (upd (σ.2.2.1 111) (Int32.toNatClampNeg (σ.1 115)) x) := ⟨_, rfl⟩
    have hP : va_P D vwCl (mcw y ad (tI σ 111 f_2)) H := by rw [ef_2]; exact x_trP hP mcw_s3
    have hD : va_D A (mcw y ad (tI σ 111 f_2)) := by rw [ef_2]; exact x_trD hD mcw_s3
    refine lv_aload_n hx hb dX4_push_19 rfl (lv_at hl 0 rfl) ?_
    refine lv_dup hx hb dX4_push_20 rfl ?_
    refine va_get (D := D) (ci := 3) (v := .int (σ.1 115)) (C := RX4) (T := TX4) (N := 6) hx hb hts inX4 hown hK hP 0 mcw_o0 rfl 4 (by decide) fl28 (fun _ h9 => h9) rfl dX4_push_21 ?_
    refine lv_iconst (v := 1) hx hb dX4_push_24 (by decide) ?_
    refine lv_iadd hx hb dX4_push_25 ?_
    refine lv_topi (fun i_3 ei_3 => ?_)
    have vi_3 : i_3.toInt = (σ.1 115).toInt + 1 := by have h9 := x_add ei_3 (by omega) (by omega); omega
    refine va_put (D := D) (ci := 3) (v := .int i_3) (ty := .int) (C := RX4) (T := TX4) (N := 6) hx hb hts inX4 tyX4 tyX4_ok nmX4 hown hK hP hD hS 0 mcw_o0 rfl 4 (by decide) fl28 (fun _ h9 => h9) rfl (by decide +kernel) rfl rfl (Nat.le_of_ble_eq_true rfl) dX4_push_26 (fun H locs hP hD hS => ?_)
    have hP : va_P D vwCl (mcw y ad (sI (tI σ 111 f_2) 115 i_3)) H := x_trP hP mcw_p0_4
    have hD : va_D A (mcw y ad (sI (tI σ 111 f_2) 115 i_3)) := x_trD hD mcw_p0_4
    exact x_vretW (u := (f_2, i_3)) hx hb hr hQ (by (try dsimp only); exact ⟨by omega, by omega⟩) hP hD hK hS dX4_push_29 hlocks

def v_mc_pop : List Cond := .code yX4_pop cX4_pop 1 (some .int) :: ([.fieldLink RX4 28 "SlopeRunner$Machine" "top" "I", .fieldLink RX4 13 "SlopeRunner$Machine" "stack" "[I"] ++ wsX40)
set_option maxHeartbeats 4000000 in
set_option maxRecDepth 100000 in
theorem mc_pop (l : Launch) (D : va_G) (y : Nat → ClassId) (sz : Nat) (ad : Nat → Nat) (σ : OS) (htop0 : 0 ≤ (σ.1 115).toInt) (htop1 : (σ.1 115).toInt ≤ 64) : Met l yX4_pop v_mc_pop ({ frames := 0, cells := 0, slots := 0, locals := 0 } : Room) (va_Pc [.ref (ad 110)] (xPre D (xT y) (mcw y ad σ) sz)) (va_Qi (fun (r : Int32) (u : Int32) => 0 ≤ u.toInt ∧ u.toInt ≤ 64) (fun (u : Int32) => xB D (xT y) (va_A (mcw y ad σ) sz) (mcw y ad (sI σ 115 u))) (va_A (mcw y ad σ) sz)) 0 0 (va_A (mcw y ad σ) sz) := by
  refine x_meti (cc := cX4_pop) (maxL := 1) (by decide) rfl (Nat.le_of_ble_eq_true rfl) ?_
  intro p e s m below meth c A H locs Q hx hb hml hown hts hr hlocks hmn hA hP hK hD hS ls hl hQ
  have hl : lv_has ls 1 [(0, .ref (ad 110))] := hl
  have fl28 := hts (.fieldLink RX4 28 "SlopeRunner$Machine" "top" "I") (List.mem_of_getElem? (i := 1) rfl)
  have inX4 : ∀ w ∈ wsX40, w ∈ v_mc_pop := (fun w h => List.mem_cons_of_mem _ (List.mem_append_right _ h))
  have kk_0 : (0 : Int32).toInt = 0 := rfl
  have kk_1 : (1 : Int32).toInt = 1 := rfl
  have fl13 := hts (.fieldLink RX4 13 "SlopeRunner$Machine" "stack" "[I") (List.mem_of_getElem? (i := 2) rfl)
  refine lv_aload_n hx hb dX4_pop_0 rfl (lv_at hl 0 rfl) ?_
  refine va_get (D := D) (ci := 3) (v := .int (σ.1 115)) (C := RX4) (T := TX4) (N := 6) hx hb hts inX4 hown hK hP 0 mcw_o0 rfl 4 (by decide) fl28 (fun _ h9 => h9) rfl dX4_pop_1 ?_
  refine lv_if_gt (tgt := 9) hx hb dX4_pop_4 (by decide) (fun c_1 => ?_) (fun c_1 => ?_)
  · have kc_1 : (σ.1 115).toInt > 0 := by have h9 := c_1; simp only [ge_iff_le, gt_iff_lt, x_lt, x_le, x_eq, ne_eq, Int32.not_lt, Int32.not_le] at h9; simp only [Int32.reduceToInt] at h9; omega
    refine lv_aload_n hx hb dX4_pop_9 rfl (lv_at hl 0 rfl) ?_
    refine lv_dup hx hb dX4_pop_10 rfl ?_
    refine va_get (D := D) (ci := 3) (v := .int (σ.1 115)) (C := RX4) (T := TX4) (N := 6) hx hb hts inX4 hown hK hP 0 mcw_o0 rfl 4 (by decide) fl28 (fun _ h9 => h9) rfl dX4_pop_11 ?_
    refine lv_iconst (v := 1) hx hb dX4_pop_14 (by decide) ?_
    refine lv_isub hx hb dX4_pop_15 ?_
    refine lv_topi (fun i_2 ei_2 => ?_)
    have vi_2 : i_2.toInt = (σ.1 115).toInt - 1 := by have h9 := x_sub ei_2 (by omega) (by omega); omega
    refine va_put (D := D) (ci := 3) (v := .int i_2) (ty := .int) (C := RX4) (T := TX4) (N := 6) hx hb hts inX4 tyX4 tyX4_ok nmX4 hown hK hP hD hS 0 mcw_o0 rfl 4 (by decide) fl28 (fun _ h9 => h9) rfl (by decide +kernel) rfl rfl (Nat.le_of_ble_eq_true rfl) dX4_pop_16 (fun H locs hP hD hS => ?_)
    have hP : va_P D vwCl (mcw y ad (sI σ 115 i_2)) H := x_trP hP mcw_p0_4
    have hD : va_D A (mcw y ad (sI σ 115 i_2)) := x_trD hD mcw_p0_4
    refine lv_aload_n hx hb dX4_pop_19 rfl (lv_at hl 0 rfl) ?_
    refine va_get (D := D) (ci := 3) (v := .ref (ad 111)) (C := RX4) (T := TX4) (N := 6) hx hb hts inX4 hown hK hP 0 mcw_o0 rfl 0 (by decide) fl13 (fun _ h9 => h9) rfl dX4_pop_20 ?_
    refine lv_aload_n hx hb dX4_pop_23 rfl (lv_at hl 0 rfl) ?_
    refine va_get (D := D) (ci := 3) (v := .int i_2) (C := RX4) (T := TX4) (N := 6) hx hb hts inX4 hown hK hP 0 mcw_o0 rfl 4 (by decide) fl28 (fun _ h9 => h9) rfl dX4_pop_24 ?_
    refine va_iald hx hb hK hP 3 2 mcw_a3 rfl (x_in (by omega) (by omega)) dX4_pop_27 ?_
    refine lv_topi (fun i_3 ei_3 => ?_)
    have ei_3 : i_3 = (σ.2.2.1 111) (Int32.toNatClampNeg i_2) := ei_3
    exact x_iretW (v := i_3) (u := i_2) hx hb hr hQ ⟨by omega, by omega⟩ hP hD hK hS dX4_pop_28 hlocks
  · have kc_1 : (σ.1 115).toInt ≤ 0 := by have h9 := c_1; simp only [ge_iff_le, gt_iff_lt, x_lt, x_le, x_eq, ne_eq, Int32.not_lt, Int32.not_le] at h9; simp only [Int32.reduceToInt] at h9; omega
    refine lv_iconst (v := 0) hx hb dX4_pop_7 (by decide) ?_
    have hP : va_P D vwCl (mcw y ad (sI σ 115 (σ.1 115))) H := hP
    have hD : va_D A (mcw y ad (sI σ 115 (σ.1 115))) := hD
    exact x_iretW (v := 0) (u := (σ.1 115)) hx hb hr hQ ⟨by omega, by omega⟩ hP hD hK hS dX4_pop_8 hlocks

def v_mc_pushFact : List Cond := .code yX4_pushFact cX4_pushFact 2 none :: ([] ++ (wsV RX4 69 RX4 yX4_push v_mc_push))
theorem g_mc_pushFact_0 : GoodIn v_mc_pushFact (wsV RX4 69 RX4 yX4_push v_mc_push) := goodIn_sub (fun w h => List.mem_cons_of_mem _ (List.mem_append_right _ h)) (by decide +kernel)
set_option maxHeartbeats 4000000 in
set_option maxRecDepth 100000 in
theorem mc_pushFact (l : Launch) (D : va_G) (y : Nat → ClassId) (sz : Nat) (ad : Nat → Nat) (σ : OS) (x : Int32) (htop0 : 0 ≤ (σ.1 115).toInt) (htop1 : (σ.1 115).toInt ≤ 64) : Met l yX4_pushFact v_mc_pushFact ({ frames := 1, cells := 0, slots := 0, locals := 21 } : Room) (va_Pc [.ref (ad 110), .int x] (xPre D (xT y) (mcw y ad σ) sz)) (va_Qv (fun (u : (Nat → Int32) × Int32) => 0 ≤ u.2.toInt ∧ u.2.toInt ≤ 64) (fun (u : (Nat → Int32) × Int32) => xB D (xT y) (va_A (mcw y ad σ) sz) (mcw y ad (sI (tI σ 111 u.1) 115 u.2))) (va_A (mcw y ad σ) sz)) 0 0 (va_A (mcw y ad σ) sz) := by
  refine x_metv (cc := cX4_pushFact) (maxL := 2) (by decide) rfl (Nat.le_of_ble_eq_true rfl) ?_
  intro p e s m below meth c A H locs Q hx hb hml hown hts hr hlocks hmn hA hP hK hD hS ls hl hQ
  have hl : lv_has ls 2 [(0, .ref (ad 110)), (1, .int x)] := hl
  have kk_0 : (0 : Int32).toInt = 0 := rfl
  have kk_1 : (1 : Int32).toInt = 1 := rfl
  refine lv_aload_n hx hb dX4_pushFact_0 rfl (lv_at hl 0 rfl) ?_
  refine lv_iload_n hx hb dX4_pushFact_1 rfl (lv_at hl 1 rfl) ?_
  refine lv_if_eq (tgt := 9) hx hb dX4_pushFact_2 (by decide) (fun c_1 => ?_) (fun c_1 => ?_)
  · have kc_1 : x.toInt = 0 := by have h9 := c_1; simp only [ge_iff_le, gt_iff_lt, x_lt, x_le, x_eq, ne_eq, Int32.not_lt, Int32.not_le] at h9; simp only [Int32.reduceToInt] at h9; omega
    refine lv_iconst (v := 0) hx hb dX4_pushFact_9 (by decide) ?_
    refine x_callvW (va_runV (As := [.int 0]) (rest := []) ⟨hx, hb, hml, hown, hts⟩ (mc_push l D y H.size ad σ 0 (show 0 ≤ ((σ.1 115)).toInt from by first | omega | decide) (show ((σ.1 115)).toInt ≤ 64 from by first | omega | decide)) (cwV 1 hts g_mc_pushFact_0 rfl rfl rfl (by decide +kernel) ⟨Nat.le_of_ble_eq_true rfl, Nat.le_of_ble_eq_true rfl⟩) (x_preV (q := (RX4, TX4, 6)) hK hP hD (ci := 3) (q0 := 0) rfl mcw_o0) rfl rfl hl.1 rfl (lv_room (Nat.le_of_ble_eq_true rfl)) dX4_pushFact_10 ⟨Nat.le_of_ble_eq_true rfl, Nat.le_of_ble_eq_true rfl⟩) hP hD hS hA (fun u H locs hw hP hD hS => ?_)
    obtain ⟨f_2, n_3⟩ := u
    try dsimp only at hw
    have hP : va_P D vwCl (mcw y ad (sI (tI σ 111 f_2) 115 n_3)) H := hP
    have hD : va_D A (mcw y ad (sI (tI σ 111 f_2) 115 n_3)) := hD
    replace hw : 0 ≤ n_3.toInt ∧ n_3.toInt ≤ 64 := hw
    exact x_vretW (u := (f_2, n_3)) hx hb hr hQ (by (try dsimp only); exact ⟨by omega, by omega⟩) hP hD hK hS dX4_pushFact_13 hlocks
  · have kc_1 : x.toInt ≠ 0 := by have h9 := c_1; simp only [ge_iff_le, gt_iff_lt, x_lt, x_le, x_eq, ne_eq, Int32.not_lt, Int32.not_le] at h9; simp only [Int32.reduceToInt] at h9; omega
    refine lv_iconst (v := 1) hx hb dX4_pushFact_5 (by decide) ?_
    refine lv_goto (tgt := 10) hx hb dX4_pushFact_6 (by decide) ?_
    refine x_callvW (va_runV (As := [.int 1]) (rest := []) ⟨hx, hb, hml, hown, hts⟩ (mc_push l D y H.size ad σ 1 (show 0 ≤ ((σ.1 115)).toInt from by first | omega | decide) (show ((σ.1 115)).toInt ≤ 64 from by first | omega | decide)) (cwV 1 hts g_mc_pushFact_0 rfl rfl rfl (by decide +kernel) ⟨Nat.le_of_ble_eq_true rfl, Nat.le_of_ble_eq_true rfl⟩) (x_preV (q := (RX4, TX4, 6)) hK hP hD (ci := 3) (q0 := 0) rfl mcw_o0) rfl rfl hl.1 rfl (lv_room (Nat.le_of_ble_eq_true rfl)) dX4_pushFact_10 ⟨Nat.le_of_ble_eq_true rfl, Nat.le_of_ble_eq_true rfl⟩) hP hD hS hA (fun u H locs hw hP hD hS => ?_)
    obtain ⟨f_4, n_5⟩ := u
    try dsimp only at hw
    have hP : va_P D vwCl (mcw y ad (sI (tI σ 111 f_4) 115 n_5)) H := hP
    have hD : va_D A (mcw y ad (sI (tI σ 111 f_4) 115 n_5)) := hD
    replace hw : 0 ≤ n_5.toInt ∧ n_5.toInt ≤ 64 := hw
    exact x_vretW (u := (f_4, n_5)) hx hb hr hQ (by (try dsimp only); exact ⟨by omega, by omega⟩) hP hD hK hS dX4_pushFact_13 hlocks

def v_mc_load : List Cond := .code yX4_load cX4_load 2 none :: ([.fieldLink RX4 24 "SlopeRunner$Machine" "tape" "LSlopeRunner$Tape;", .fieldLink RX4 45 "SlopeRunner$Tape" "state" "I", .fieldLink RX4 17 "SlopeRunner$Machine" "held" "[I"] ++ ((wsV RX4 69 RX4 yX4_push v_mc_push) ++ (wsX40 ++ wsX80)))
theorem g_mc_load_0 : GoodIn v_mc_load (wsV RX4 69 RX4 yX4_push v_mc_push) := goodIn_sub (fun w h => List.mem_cons_of_mem _ (List.mem_append_right _ (List.mem_append_left _ h))) (by decide +kernel)
set_option maxHeartbeats 4000000 in
set_option maxRecDepth 100000 in
theorem mc_load (l : Launch) (D : va_G) (y : Nat → ClassId) (sz : Nat) (ad : Nat → Nat) (σ : OS) (x : Int32) (htop0 : 0 ≤ (σ.1 115).toInt) (htop1 : (σ.1 115).toInt ≤ 64) : Met l yX4_load v_mc_load ({ frames := 1, cells := 0, slots := 0, locals := 21 } : Room) (va_Pc [.ref (ad 110), .int x] (xPre D (xT y) (mcw y ad σ) sz)) (va_Qv (fun (u : Int32 × (Nat → Int32) × Int32) => 0 ≤ u.2.2.toInt ∧ u.2.2.toInt ≤ 64) (fun (u : Int32 × (Nat → Int32) × Int32) => xB D (xT y) (va_A (mcw y ad σ) sz) (mcw y ad (sI (tI (sI σ 136 u.1) 111 u.2.1) 115 u.2.2))) (va_A (mcw y ad σ) sz)) 0 0 (va_A (mcw y ad σ) sz) := by
  refine x_metv (cc := cX4_load) (maxL := 2) (by decide) rfl (Nat.le_of_ble_eq_true rfl) ?_
  intro p e s m below meth c A H locs Q hx hb hml hown hts hr hlocks hmn hA hP hK hD hS ls hl hQ
  have hl : lv_has ls 2 [(0, .ref (ad 110)), (1, .int x)] := hl
  have kk_0 : (0 : Int32).toInt = 0 := rfl
  have fl24 := hts (.fieldLink RX4 24 "SlopeRunner$Machine" "tape" "LSlopeRunner$Tape;") (List.mem_of_getElem? (i := 1) rfl)
  have inX4 : ∀ w ∈ wsX40, w ∈ v_mc_load := (fun w h => List.mem_cons_of_mem _ (List.mem_append_right _ (List.mem_append_right _ (List.mem_append_left _ h))))
  have fl45 := hts (.fieldLink RX4 45 "SlopeRunner$Tape" "state" "I") (List.mem_of_getElem? (i := 2) rfl)
  have inX8 : ∀ w ∈ wsX80, w ∈ v_mc_load := (fun w h => List.mem_cons_of_mem _ (List.mem_append_right _ (List.mem_append_right _ (List.mem_append_right _ h))))
  have fl17 := hts (.fieldLink RX4 17 "SlopeRunner$Machine" "held" "[I") (List.mem_of_getElem? (i := 3) rfl)
  have kk_84 : (84 : Int32).toInt = 84 := rfl
  refine lv_iload_n hx hb dX4_load_0 rfl (lv_at hl 1 rfl) ?_
  refine lv_if_lt (tgt := 13) hx hb dX4_load_1 (by decide) (fun c_1 => ?_) (fun c_1 => ?_)
  · have kc_1 : x.toInt < 0 := by have h9 := c_1; simp only [ge_iff_le, gt_iff_lt, x_lt, x_le, x_eq, ne_eq, Int32.not_lt, Int32.not_le] at h9; simp only [Int32.reduceToInt] at h9; omega
    refine lv_aload_n hx hb dX4_load_13 rfl (lv_at hl 0 rfl) ?_
    refine va_get (D := D) (ci := 3) (v := .ref (ad 130)) (C := RX4) (T := TX4) (N := 6) hx hb hts inX4 hown hK hP 0 mcw_o0 rfl 3 (by decide) fl24 (fun _ h9 => h9) rfl dX4_load_14 ?_
    refine lv_iconst (v := 1) hx hb dX4_load_17 (by decide) ?_
    refine va_put (D := D) (ci := 7) (v := .int 1) (ty := .int) (C := RX8) (T := TX8) (N := 13) hx hb hts inX8 tyX8 tyX8_ok nmX8 hown hK hP hD hS 2 mcw_o2 rfl 5 (by decide) fl45 (fun _ h9 => h9) rfl (by decide +kernel) rfl rfl (Nat.le_of_ble_eq_true rfl) dX4_load_18 (fun H locs hP hD hS => ?_)
    have hP : va_P D vwCl (mcw y ad (sI σ 136 1)) H := x_trP hP mcw_p2_5
    have hD : va_D A (mcw y ad (sI σ 136 1)) := x_trD hD mcw_p2_5
    refine lv_goto (tgt := 34) hx hb dX4_load_21 (by decide) ?_
    have hP : va_P D vwCl (mcw y ad (sI (tI (sI σ 136 1) 111 (σ.2.2.1 111)) 115 (σ.1 115))) H := hP
    have hD : va_D A (mcw y ad (sI (tI (sI σ 136 1) 111 (σ.2.2.1 111)) 115 (σ.1 115))) := hD
    exact x_vretW (u := (1, (σ.2.2.1 111), (σ.1 115))) hx hb hr hQ (by (try dsimp only); exact ⟨by omega, by omega⟩) hP hD hK hS dX4_load_34 hlocks
  · have kc_1 : x.toInt ≥ 0 := by have h9 := c_1; simp only [ge_iff_le, gt_iff_lt, x_lt, x_le, x_eq, ne_eq, Int32.not_lt, Int32.not_le] at h9; simp only [Int32.reduceToInt] at h9; omega
    refine lv_iload_n hx hb dX4_load_4 rfl (lv_at hl 1 rfl) ?_
    refine lv_aload_n hx hb dX4_load_5 rfl (lv_at hl 0 rfl) ?_
    refine va_get (D := D) (ci := 3) (v := .ref (ad 112)) (C := RX4) (T := TX4) (N := 6) hx hb hts inX4 hown hK hP 0 mcw_o0 rfl 1 (by decide) fl17 (fun _ h9 => h9) rfl dX4_load_6 ?_
    refine va_alen hx hb hK hP 4 2 mcw_a4 rfl (v := 84) rfl dX4_load_9 ?_
    refine lv_icmp_lt (tgt := 24) hx hb dX4_load_10 (by decide) (fun c_2 => ?_) (fun c_2 => ?_)
    · have kc_2 : x.toInt < 84 := by have h9 := c_2; simp only [ge_iff_le, gt_iff_lt, x_lt, x_le, x_eq, ne_eq, Int32.not_lt, Int32.not_le] at h9; simp only [Int32.reduceToInt] at h9; omega
      refine lv_aload_n hx hb dX4_load_24 rfl (lv_at hl 0 rfl) ?_
      refine lv_aload_n hx hb dX4_load_25 rfl (lv_at hl 0 rfl) ?_
      refine va_get (D := D) (ci := 3) (v := .ref (ad 112)) (C := RX4) (T := TX4) (N := 6) hx hb hts inX4 hown hK hP 0 mcw_o0 rfl 1 (by decide) fl17 (fun _ h9 => h9) rfl dX4_load_26 ?_
      refine lv_iload_n hx hb dX4_load_29 rfl (lv_at hl 1 rfl) ?_
      refine va_iald hx hb hK hP 4 2 mcw_a4 rfl (x_in (by omega) (by omega)) dX4_load_30 ?_
      refine lv_topi (fun i_3 ei_3 => ?_)
      have ei_3 : i_3 = (σ.2.2.1 112) (Int32.toNatClampNeg x) := ei_3
      refine x_callvW (va_runV (As := [.int i_3]) (rest := []) ⟨hx, hb, hml, hown, hts⟩ (mc_push l D y H.size ad σ i_3 (show 0 ≤ ((σ.1 115)).toInt from by first | omega | decide) (show ((σ.1 115)).toInt ≤ 64 from by first | omega | decide)) (cwV 1 hts g_mc_load_0 rfl rfl rfl (by decide +kernel) ⟨Nat.le_of_ble_eq_true rfl, Nat.le_of_ble_eq_true rfl⟩) (x_preV (q := (RX4, TX4, 6)) hK hP hD (ci := 3) (q0 := 0) rfl mcw_o0) rfl rfl hl.1 rfl (lv_room (Nat.le_of_ble_eq_true rfl)) dX4_load_31 ⟨Nat.le_of_ble_eq_true rfl, Nat.le_of_ble_eq_true rfl⟩) hP hD hS hA (fun u H locs hw hP hD hS => ?_)
      obtain ⟨f_4, n_5⟩ := u
      try dsimp only at hw
      have hP : va_P D vwCl (mcw y ad (sI (tI σ 111 f_4) 115 n_5)) H := hP
      have hD : va_D A (mcw y ad (sI (tI σ 111 f_4) 115 n_5)) := hD
      replace hw : 0 ≤ n_5.toInt ∧ n_5.toInt ≤ 64 := hw
      have hP : va_P D vwCl (mcw y ad (sI (tI (sI σ 136 (σ.1 136)) 111 f_4) 115 n_5)) H := hP
      have hD : va_D A (mcw y ad (sI (tI (sI σ 136 (σ.1 136)) 111 f_4) 115 n_5)) := hD
      exact x_vretW (u := ((σ.1 136), f_4, n_5)) hx hb hr hQ (by (try dsimp only); exact ⟨by omega, by omega⟩) hP hD hK hS dX4_load_34 hlocks
    · have kc_2 : x.toInt ≥ 84 := by have h9 := c_2; simp only [ge_iff_le, gt_iff_lt, x_lt, x_le, x_eq, ne_eq, Int32.not_lt, Int32.not_le] at h9; simp only [Int32.reduceToInt] at h9; omega
      refine lv_aload_n hx hb dX4_load_13 rfl (lv_at hl 0 rfl) ?_
      refine va_get (D := D) (ci := 3) (v := .ref (ad 130)) (C := RX4) (T := TX4) (N := 6) hx hb hts inX4 hown hK hP 0 mcw_o0 rfl 3 (by decide) fl24 (fun _ h9 => h9) rfl dX4_load_14 ?_
      refine lv_iconst (v := 1) hx hb dX4_load_17 (by decide) ?_
      refine va_put (D := D) (ci := 7) (v := .int 1) (ty := .int) (C := RX8) (T := TX8) (N := 13) hx hb hts inX8 tyX8 tyX8_ok nmX8 hown hK hP hD hS 2 mcw_o2 rfl 5 (by decide) fl45 (fun _ h9 => h9) rfl (by decide +kernel) rfl rfl (Nat.le_of_ble_eq_true rfl) dX4_load_18 (fun H locs hP hD hS => ?_)
      have hP : va_P D vwCl (mcw y ad (sI σ 136 1)) H := x_trP hP mcw_p2_5
      have hD : va_D A (mcw y ad (sI σ 136 1)) := x_trD hD mcw_p2_5
      refine lv_goto (tgt := 34) hx hb dX4_load_21 (by decide) ?_
      have hP : va_P D vwCl (mcw y ad (sI (tI (sI σ 136 1) 111 (σ.2.2.1 111)) 115 (σ.1 115))) H := hP
      have hD : va_D A (mcw y ad (sI (tI (sI σ 136 1) 111 (σ.2.2.1 111)) 115 (σ.1 115))) := hD
      exact x_vretW (u := (1, (σ.2.2.1 111), (σ.1 115))) hx hb hr hQ (by (try dsimp only); exact ⟨by omega, by omega⟩) hP hD hK hS dX4_load_34 hlocks

def v_mc_store : List Cond := .code yX4_store cX4_store 2 none :: ([.fieldLink RX4 24 "SlopeRunner$Machine" "tape" "LSlopeRunner$Tape;", .fieldLink RX4 45 "SlopeRunner$Tape" "state" "I", .fieldLink RX4 17 "SlopeRunner$Machine" "held" "[I"] ++ ((wsV RX4 81 RX4 yX4_pop v_mc_pop) ++ (wsX40 ++ wsX80)))
theorem g_mc_store_0 : GoodIn v_mc_store (wsV RX4 81 RX4 yX4_pop v_mc_pop) := goodIn_sub (fun w h => List.mem_cons_of_mem _ (List.mem_append_right _ (List.mem_append_left _ h))) (by decide +kernel)
set_option maxHeartbeats 4000000 in
set_option maxRecDepth 100000 in
theorem mc_store (l : Launch) (D : va_G) (y : Nat → ClassId) (sz : Nat) (ad : Nat → Nat) (σ : OS) (x : Int32) (htop0 : 0 ≤ (σ.1 115).toInt) (htop1 : (σ.1 115).toInt ≤ 64) : Met l yX4_store v_mc_store ({ frames := 1, cells := 0, slots := 0, locals := 20 } : Room) (va_Pc [.ref (ad 110), .int x] (xPre D (xT y) (mcw y ad σ) sz)) (va_Qv (fun (u : Int32 × (Nat → Int32) × Int32) => 0 ≤ u.2.2.toInt ∧ u.2.2.toInt ≤ 64) (fun (u : Int32 × (Nat → Int32) × Int32) => xB D (xT y) (va_A (mcw y ad σ) sz) (mcw y ad (sI (tI (sI σ 136 u.1) 112 u.2.1) 115 u.2.2))) (va_A (mcw y ad σ) sz)) 0 0 (va_A (mcw y ad σ) sz) := by
  refine x_metv (cc := cX4_store) (maxL := 2) (by decide) rfl (Nat.le_of_ble_eq_true rfl) ?_
  intro p e s m below meth c A H locs Q hx hb hml hown hts hr hlocks hmn hA hP hK hD hS ls hl hQ
  have hl : lv_has ls 2 [(0, .ref (ad 110)), (1, .int x)] := hl
  have kk_0 : (0 : Int32).toInt = 0 := rfl
  have fl24 := hts (.fieldLink RX4 24 "SlopeRunner$Machine" "tape" "LSlopeRunner$Tape;") (List.mem_of_getElem? (i := 1) rfl)
  have inX4 : ∀ w ∈ wsX40, w ∈ v_mc_store := (fun w h => List.mem_cons_of_mem _ (List.mem_append_right _ (List.mem_append_right _ (List.mem_append_left _ h))))
  have fl45 := hts (.fieldLink RX4 45 "SlopeRunner$Tape" "state" "I") (List.mem_of_getElem? (i := 2) rfl)
  have inX8 : ∀ w ∈ wsX80, w ∈ v_mc_store := (fun w h => List.mem_cons_of_mem _ (List.mem_append_right _ (List.mem_append_right _ (List.mem_append_right _ h))))
  have fl17 := hts (.fieldLink RX4 17 "SlopeRunner$Machine" "held" "[I") (List.mem_of_getElem? (i := 3) rfl)
  have kk_84 : (84 : Int32).toInt = 84 := rfl
  refine lv_iload_n hx hb dX4_store_0 rfl (lv_at hl 1 rfl) ?_
  refine lv_if_lt (tgt := 13) hx hb dX4_store_1 (by decide) (fun c_1 => ?_) (fun c_1 => ?_)
  · have kc_1 : x.toInt < 0 := by have h9 := c_1; simp only [ge_iff_le, gt_iff_lt, x_lt, x_le, x_eq, ne_eq, Int32.not_lt, Int32.not_le] at h9; simp only [Int32.reduceToInt] at h9; omega
    refine lv_aload_n hx hb dX4_store_13 rfl (lv_at hl 0 rfl) ?_
    refine va_get (D := D) (ci := 3) (v := .ref (ad 130)) (C := RX4) (T := TX4) (N := 6) hx hb hts inX4 hown hK hP 0 mcw_o0 rfl 3 (by decide) fl24 (fun _ h9 => h9) rfl dX4_store_14 ?_
    refine lv_iconst (v := 1) hx hb dX4_store_17 (by decide) ?_
    refine va_put (D := D) (ci := 7) (v := .int 1) (ty := .int) (C := RX8) (T := TX8) (N := 13) hx hb hts inX8 tyX8 tyX8_ok nmX8 hown hK hP hD hS 2 mcw_o2 rfl 5 (by decide) fl45 (fun _ h9 => h9) rfl (by decide +kernel) rfl rfl (Nat.le_of_ble_eq_true rfl) dX4_store_18 (fun H locs hP hD hS => ?_)
    have hP : va_P D vwCl (mcw y ad (sI σ 136 1)) H := x_trP hP mcw_p2_5
    have hD : va_D A (mcw y ad (sI σ 136 1)) := x_trD hD mcw_p2_5
    refine lv_goto (tgt := 34) hx hb dX4_store_21 (by decide) ?_
    have hP : va_P D vwCl (mcw y ad (sI (tI (sI σ 136 1) 112 (σ.2.2.1 112)) 115 (σ.1 115))) H := hP
    have hD : va_D A (mcw y ad (sI (tI (sI σ 136 1) 112 (σ.2.2.1 112)) 115 (σ.1 115))) := hD
    exact x_vretW (u := (1, (σ.2.2.1 112), (σ.1 115))) hx hb hr hQ (by (try dsimp only); exact ⟨by omega, by omega⟩) hP hD hK hS dX4_store_34 hlocks
  · have kc_1 : x.toInt ≥ 0 := by have h9 := c_1; simp only [ge_iff_le, gt_iff_lt, x_lt, x_le, x_eq, ne_eq, Int32.not_lt, Int32.not_le] at h9; simp only [Int32.reduceToInt] at h9; omega
    refine lv_iload_n hx hb dX4_store_4 rfl (lv_at hl 1 rfl) ?_
    refine lv_aload_n hx hb dX4_store_5 rfl (lv_at hl 0 rfl) ?_
    refine va_get (D := D) (ci := 3) (v := .ref (ad 112)) (C := RX4) (T := TX4) (N := 6) hx hb hts inX4 hown hK hP 0 mcw_o0 rfl 1 (by decide) fl17 (fun _ h9 => h9) rfl dX4_store_6 ?_
    refine va_alen hx hb hK hP 4 2 mcw_a4 rfl (v := 84) rfl dX4_store_9 ?_
    refine lv_icmp_lt (tgt := 24) hx hb dX4_store_10 (by decide) (fun c_2 => ?_) (fun c_2 => ?_)
    · have kc_2 : x.toInt < 84 := by have h9 := c_2; simp only [ge_iff_le, gt_iff_lt, x_lt, x_le, x_eq, ne_eq, Int32.not_lt, Int32.not_le] at h9; simp only [Int32.reduceToInt] at h9; omega
      refine lv_aload_n hx hb dX4_store_24 rfl (lv_at hl 0 rfl) ?_
      refine va_get (D := D) (ci := 3) (v := .ref (ad 112)) (C := RX4) (T := TX4) (N := 6) hx hb hts inX4 hown hK hP 0 mcw_o0 rfl 1 (by decide) fl17 (fun _ h9 => h9) rfl dX4_store_25 ?_
      refine lv_iload_n hx hb dX4_store_28 rfl (lv_at hl 1 rfl) ?_
      refine lv_aload_n hx hb dX4_store_29 rfl (lv_at hl 0 rfl) ?_
      refine x_calliW (va_runV (As := []) (rest := [.int x, .ref (ad 112)]) ⟨hx, hb, hml, hown, hts⟩ (mc_pop l D y H.size ad σ (show 0 ≤ ((σ.1 115)).toInt from by first | omega | decide) (show ((σ.1 115)).toInt ≤ 64 from by first | omega | decide)) (cwV 0 hts g_mc_store_0 rfl rfl rfl (by decide +kernel) ⟨Nat.le_of_ble_eq_true rfl, Nat.le_of_ble_eq_true rfl⟩) (x_preV (q := (RX4, TX4, 6)) hK hP hD (ci := 3) (q0 := 0) rfl mcw_o0) rfl rfl hl.1 rfl (lv_room (Nat.le_of_ble_eq_true rfl)) dX4_store_30 ⟨Nat.le_of_ble_eq_true rfl, Nat.le_of_ble_eq_true rfl⟩) hP hD hS hA (fun r_3 u H locs hw hP hD hS => ?_)
      obtain ⟨n_4, rfl⟩ : ∃ z9, z9 = u := ⟨_, rfl⟩
      try dsimp only at hw
      have hP : va_P D vwCl (mcw y ad (sI σ 115 n_4)) H := hP
      have hD : va_D A (mcw y ad (sI σ 115 n_4)) := hD
      replace hw : 0 ≤ n_4.toInt ∧ n_4.toInt ≤ 64 := hw
      refine va_iast hx hb hK hP hD hS 4 2 mcw_a4 rfl (x_in (by omega) (by omega)) dX4_store_33 (fun H locs hP hD hS => ?_)
      obtain ⟨f_5, ef_5⟩ : ∃ z9 : Nat → Int32, z9 = (upd (σ.2.2.1 112) (Int32.toNatClampNeg x) r_3) := ⟨_, rfl⟩
      have hP : va_P D vwCl (mcw y ad (tI (sI σ 115 n_4) 112 f_5)) H := by rw [ef_5]; exact x_trP hP mcw_s4
      have hD : va_D A (mcw y ad (tI (sI σ 115 n_4) 112 f_5)) := by rw [ef_5]; exact x_trD hD mcw_s4
      have hP : va_P D vwCl (mcw y ad (sI (tI (sI σ 136 (σ.1 136)) 112 f_5) 115 n_4)) H := hP
      have hD : va_D A (mcw y ad (sI (tI (sI σ 136 (σ.1 136)) 112 f_5) 115 n_4)) := hD
      exact x_vretW (u := ((σ.1 136), f_5, n_4)) hx hb hr hQ (by (try dsimp only); exact ⟨by omega, by omega⟩) hP hD hK hS dX4_store_34 hlocks
    · have kc_2 : x.toInt ≥ 84 := by have h9 := c_2; simp only [ge_iff_le, gt_iff_lt, x_lt, x_le, x_eq, ne_eq, Int32.not_lt, Int32.not_le] at h9; simp only [Int32.reduceToInt] at h9; omega
      refine lv_aload_n hx hb dX4_store_13 rfl (lv_at hl 0 rfl) ?_
      refine va_get (D := D) (ci := 3) (v := .ref (ad 130)) (C := RX4) (T := TX4) (N := 6) hx hb hts inX4 hown hK hP 0 mcw_o0 rfl 3 (by decide) fl24 (fun _ h9 => h9) rfl dX4_store_14 ?_
      refine lv_iconst (v := 1) hx hb dX4_store_17 (by decide) ?_
      refine va_put (D := D) (ci := 7) (v := .int 1) (ty := .int) (C := RX8) (T := TX8) (N := 13) hx hb hts inX8 tyX8 tyX8_ok nmX8 hown hK hP hD hS 2 mcw_o2 rfl 5 (by decide) fl45 (fun _ h9 => h9) rfl (by decide +kernel) rfl rfl (Nat.le_of_ble_eq_true rfl) dX4_store_18 (fun H locs hP hD hS => ?_)
      have hP : va_P D vwCl (mcw y ad (sI σ 136 1)) H := x_trP hP mcw_p2_5
      have hD : va_D A (mcw y ad (sI σ 136 1)) := x_trD hD mcw_p2_5
      refine lv_goto (tgt := 34) hx hb dX4_store_21 (by decide) ?_
      have hP : va_P D vwCl (mcw y ad (sI (tI (sI σ 136 1) 112 (σ.2.2.1 112)) 115 (σ.1 115))) H := hP
      have hD : va_D A (mcw y ad (sI (tI (sI σ 136 1) 112 (σ.2.2.1 112)) 115 (σ.1 115))) := hD
      exact x_vretW (u := (1, (σ.2.2.1 112), (σ.1 115))) hx hb hr hQ (by (try dsimp only); exact ⟨by omega, by omega⟩) hP hD hK hS dX4_store_34 hlocks

def v_mc_slotInRow : List Cond := .code yX4_slotInRow cX4_slotInRow 6 (some .int) :: ([.fieldLink RX4 24 "SlopeRunner$Machine" "tape" "LSlopeRunner$Tape;", .fieldLink RX4 20 "SlopeRunner$Machine" "program" "LSlopeRunner$Program;", .fieldLink RX4 98 "SlopeRunner$Program" "rows" "I", .fieldLink RX4 104 "SlopeRunner$Program" "places" "[I"] ++ ((wsV RX4 81 RX4 yX4_pop v_mc_pop) ++ ((wsV RX4 88 RX8 yX8_valueAt v_ka_valueAt) ++ ((va_wsS RX4 92 yX0_above v_k_above) ++ ((va_wsS RX4 101 yX0_below v_k_below) ++ (wsX40 ++ wsX60))))))
theorem g_mc_slotInRow_0 : GoodIn v_mc_slotInRow (wsV RX4 81 RX4 yX4_pop v_mc_pop) := goodIn_sub (fun w h => List.mem_cons_of_mem _ (List.mem_append_right _ (List.mem_append_left _ h))) (by decide +kernel)
theorem g_mc_slotInRow_1 : GoodIn v_mc_slotInRow (wsV RX4 88 RX8 yX8_valueAt v_ka_valueAt) := goodIn_sub (fun w h => List.mem_cons_of_mem _ (List.mem_append_right _ (List.mem_append_right _ (List.mem_append_left _ h)))) (by decide +kernel)
theorem g_mc_slotInRow_2 : GoodIn v_mc_slotInRow (va_wsS RX4 92 yX0_above v_k_above) := goodIn_sub (fun w h => List.mem_cons_of_mem _ (List.mem_append_right _ (List.mem_append_right _ (List.mem_append_right _ (List.mem_append_left _ h))))) (by decide +kernel)
theorem g_mc_slotInRow_3 : GoodIn v_mc_slotInRow (va_wsS RX4 101 yX0_below v_k_below) := goodIn_sub (fun w h => List.mem_cons_of_mem _ (List.mem_append_right _ (List.mem_append_right _ (List.mem_append_right _ (List.mem_append_right _ (List.mem_append_left _ h)))))) (by decide +kernel)
set_option maxHeartbeats 4000000 in
set_option maxRecDepth 100000 in
theorem mc_slotInRow (l : Launch) (D : va_G) (y : Nat → ClassId) (sz : Nat) (ad : Nat → Nat) (σ : OS) (x : Int32) (htop0 : 0 ≤ (σ.1 115).toInt) (htop1 : (σ.1 115).toInt ≤ 64) (hsize0 : 0 ≤ (σ.1 139).toInt) (hsize1 : (σ.1 139).toInt ≤ 1359) (hresults0 : 0 ≤ (σ.1 141).toInt) (hresults1 : (σ.1 141).toInt ≤ 12) (hinputs0 : 0 ≤ (σ.1 137).toInt) (hinputs1 : (σ.1 137).toInt ≤ 8) (hplength0 : 0 ≤ (σ.1 86).toInt) (hplength1 : (σ.1 86).toInt ≤ 700) (hprows0 : 0 ≤ (σ.1 82).toInt) (hprows1 : (σ.1 82).toInt ≤ 4) : Met l yX4_slotInRow v_mc_slotInRow ({ frames := 2, cells := 0, slots := 0, locals := 42 } : Room) (va_Pc [.ref (ad 110), .int x] (xPre D (xT y) (mcw y ad σ) sz)) (va_Qi (fun (r : Int32) (u : Int32) => 0 ≤ u.toInt ∧ u.toInt ≤ 64) (fun (u : Int32) => xB D (xT y) (va_A (mcw y ad σ) sz) (mcw y ad (sI σ 115 u))) (va_A (mcw y ad σ) sz)) 0 0 (va_A (mcw y ad σ) sz) := by
  refine x_meti (cc := cX4_slotInRow) (maxL := 6) (by decide) rfl (Nat.le_of_ble_eq_true rfl) ?_
  intro p e s m below meth c A H locs Q hx hb hml hown hts hr hlocks hmn hA hP hK hD hS ls hl hQ
  have hl : lv_has ls 6 [(0, .ref (ad 110)), (1, .int x)] := hl
  have fl24 := hts (.fieldLink RX4 24 "SlopeRunner$Machine" "tape" "LSlopeRunner$Tape;") (List.mem_of_getElem? (i := 1) rfl)
  have inX4 : ∀ w ∈ wsX40, w ∈ v_mc_slotInRow := (fun w h => List.mem_cons_of_mem _ (List.mem_append_right _ (List.mem_append_right _ (List.mem_append_right _ (List.mem_append_right _ (List.mem_append_right _ (List.mem_append_left _ h)))))))
  have kk_0 : (0 : Int32).toInt = 0 := rfl
  have kk_m1 : ((-1) : Int32).toInt = -1 := rfl
  have fl20 := hts (.fieldLink RX4 20 "SlopeRunner$Machine" "program" "LSlopeRunner$Program;") (List.mem_of_getElem? (i := 2) rfl)
  have fl98 := hts (.fieldLink RX4 98 "SlopeRunner$Program" "rows" "I") (List.mem_of_getElem? (i := 3) rfl)
  have inX6 : ∀ w ∈ wsX60, w ∈ v_mc_slotInRow := (fun w h => List.mem_cons_of_mem _ (List.mem_append_right _ (List.mem_append_right _ (List.mem_append_right _ (List.mem_append_right _ (List.mem_append_right _ (List.mem_append_right _ h)))))))
  have fl104 := hts (.fieldLink RX4 104 "SlopeRunner$Program" "places" "[I") (List.mem_of_getElem? (i := 4) rfl)
  refine lv_aload_n hx hb dX4_slotInRow_0 rfl (lv_at hl 0 rfl) ?_
  refine va_get (D := D) (ci := 3) (v := .ref (ad 130)) (C := RX4) (T := TX4) (N := 6) hx hb hts inX4 hown hK hP 0 mcw_o0 rfl 3 (by decide) fl24 (fun _ h9 => h9) rfl dX4_slotInRow_1 ?_
  refine lv_aload_n hx hb dX4_slotInRow_4 rfl (lv_at hl 0 rfl) ?_
  refine x_calliW (va_runV (As := []) (rest := [.ref (ad 130)]) ⟨hx, hb, hml, hown, hts⟩ (mc_pop l D y H.size ad σ (show 0 ≤ ((σ.1 115)).toInt from by first | omega | decide) (show ((σ.1 115)).toInt ≤ 64 from by first | omega | decide)) (cwV 0 hts g_mc_slotInRow_0 rfl rfl rfl (by decide +kernel) ⟨Nat.le_of_ble_eq_true rfl, Nat.le_of_ble_eq_true rfl⟩) (x_preV (q := (RX4, TX4, 6)) hK hP hD (ci := 3) (q0 := 0) rfl mcw_o0) rfl rfl hl.1 rfl (lv_room (Nat.le_of_ble_eq_true rfl)) dX4_slotInRow_5 ⟨Nat.le_of_ble_eq_true rfl, Nat.le_of_ble_eq_true rfl⟩) hP hD hS hA (fun r_1 u H locs hw hP hD hS => ?_)
  obtain ⟨n_2, rfl⟩ : ∃ z9, z9 = u := ⟨_, rfl⟩
  try dsimp only at hw
  have hP : va_P D vwCl (mcw y ad (sI σ 115 n_2)) H := hP
  have hD : va_D A (mcw y ad (sI σ 115 n_2)) := hD
  replace hw : 0 ≤ n_2.toInt ∧ n_2.toInt ≤ 64 := hw
  have hPs : va_P D vwCl (tpw y ad (sI σ 115 n_2)) H := x_suP hP [2, 11, 12, 13, 14, 15] rfl
  have hDs : va_D A (tpw y ad (sI σ 115 n_2)) := x_suD hD [2, 11, 12, 13, 14, 15] rfl (by decide)
  refine x_calllS (b1 := fun (u : Unit) => (mcw y ad (sI σ 115 n_2))) [2, 11, 12, 13, 14, 15] (va_runV (As := [.int r_1]) (rest := []) ⟨hx, hb, hml, hown, hts⟩ (ka_valueAt l D y H.size ad (sI σ 115 n_2) r_1 (show 0 ≤ ((σ.1 139)).toInt from by first | omega | decide) (show ((σ.1 139)).toInt ≤ 1359 from by first | omega | decide)) (cwV 1 hts g_mc_slotInRow_1 rfl rfl rfl (by decide +kernel) ⟨Nat.le_of_ble_eq_true rfl, Nat.le_of_ble_eq_true rfl⟩) (x_preV (q := (RX8, TX8, 13)) hK hPs hDs (ci := 7) (q0 := 0) rfl tpw_o0) rfl rfl hl.1 rfl (lv_room (Nat.le_of_ble_eq_true rfl)) dX4_slotInRow_8 ⟨Nat.le_of_ble_eq_true rfl, Nat.le_of_ble_eq_true rfl⟩) hP hD hS hA rfl (fun _ => rfl) (fun _ => rfl) (fun _ => rfl) (fun r_3 u H locs hw hP hD hS => ?_)
  try dsimp only at hw
  have hP : va_P D vwCl (mcw y ad (sI σ 115 n_2)) H := hP
  have hD : va_D A (mcw y ad (sI σ 115 n_2)) := hD
  refine lv_lstore_n (lv' := [(2, .long r_3), (0, .ref (ad 110)), (1, .int x)]) hx hb dX4_slotInRow_11 rfl hl (by decide) rfl (fun ls hl => ?_)
  refine lv_lload_n hx hb dX4_slotInRow_12 rfl (lv_at hl 0 rfl) ?_
  refine x_calllN (va_runS (As := [.long r_3]) (rest := []) ⟨hx, hb, hml, hown, hts⟩ (k_above l D y H.size r_3) (va_cwS 1 hts g_mc_slotInRow_2 rfl rfl rfl (by decide +kernel) ⟨Nat.le_of_ble_eq_true rfl, Nat.le_of_ble_eq_true rfl⟩) (x_preS hK (x_nilP D H) (x_nilD A)) rfl rfl hl.1 rfl (lv_room (Nat.le_of_ble_eq_true rfl)) dX4_slotInRow_13 ⟨Nat.le_of_ble_eq_true rfl, Nat.le_of_ble_eq_true rfl⟩) hP hD hS hA (fun r_4 u H locs hw hP hD hS => ?_)
  try dsimp only at hw
  refine lv_lstore (lv' := [(4, .long r_4), (2, .long r_3), (0, .ref (ad 110)), (1, .int x)]) hx hb dX4_slotInRow_16 hl (by decide) rfl (fun ls hl => ?_)
  refine lv_iload_n hx hb dX4_slotInRow_18 rfl (lv_at hl 3 rfl) ?_
  refine lv_if_lt (tgt := 42) hx hb dX4_slotInRow_19 (by decide) (fun c_5 => ?_) (fun c_5 => ?_)
  · have kc_5 : x.toInt < 0 := by have h9 := c_5; simp only [ge_iff_le, gt_iff_lt, x_lt, x_le, x_eq, ne_eq, Int32.not_lt, Int32.not_le] at h9; simp only [Int32.reduceToInt] at h9; omega
    refine lv_iconst (v := (-1)) hx hb dX4_slotInRow_42 (by decide) ?_
    exact x_iretW (v := (-1)) (u := n_2) hx hb hr hQ ⟨by omega, by omega⟩ hP hD hK hS dX4_slotInRow_43 hlocks
  · have kc_5 : x.toInt ≥ 0 := by have h9 := c_5; simp only [ge_iff_le, gt_iff_lt, x_lt, x_le, x_eq, ne_eq, Int32.not_lt, Int32.not_le] at h9; simp only [Int32.reduceToInt] at h9; omega
    refine lv_iload_n hx hb dX4_slotInRow_22 rfl (lv_at hl 3 rfl) ?_
    refine lv_aload_n hx hb dX4_slotInRow_23 rfl (lv_at hl 2 rfl) ?_
    refine va_get (D := D) (ci := 3) (v := .ref (ad 80)) (C := RX4) (T := TX4) (N := 6) hx hb hts inX4 hown hK hP 0 mcw_o0 rfl 2 (by decide) fl20 (fun _ h9 => h9) rfl dX4_slotInRow_24 ?_
    refine va_get (D := D) (ci := 5) (v := .int (σ.1 82)) (C := RX6) (T := TX6) (N := 13) hx hb hts inX6 hown hK hP 1 mcw_o1 rfl 1 (by decide) fl98 (fun _ h9 => h9) rfl dX4_slotInRow_27 ?_
    refine lv_icmp_ge (tgt := 42) hx hb dX4_slotInRow_30 (by decide) (fun c_6 => ?_) (fun c_6 => ?_)
    · have kc_6 : x.toInt ≥ (σ.1 82).toInt := by have h9 := c_6; simp only [ge_iff_le, gt_iff_lt, x_lt, x_le, x_eq, ne_eq, Int32.not_lt, Int32.not_le] at h9; omega
      refine lv_iconst (v := (-1)) hx hb dX4_slotInRow_42 (by decide) ?_
      exact x_iretW (v := (-1)) (u := n_2) hx hb hr hQ ⟨by omega, by omega⟩ hP hD hK hS dX4_slotInRow_43 hlocks
    · have kc_6 : x.toInt < (σ.1 82).toInt := by have h9 := c_6; simp only [ge_iff_le, gt_iff_lt, x_lt, x_le, x_eq, ne_eq, Int32.not_lt, Int32.not_le] at h9; omega
      refine lv_lload_n hx hb dX4_slotInRow_33 rfl (lv_at hl 1 rfl) ?_
      refine x_calllN (va_runS (As := [.long r_3]) (rest := []) ⟨hx, hb, hml, hown, hts⟩ (k_below l D y H.size r_3) (va_cwS 1 hts g_mc_slotInRow_3 rfl rfl rfl (by decide +kernel) ⟨Nat.le_of_ble_eq_true rfl, Nat.le_of_ble_eq_true rfl⟩) (x_preS hK (x_nilP D H) (x_nilD A)) rfl rfl hl.1 rfl (lv_room (Nat.le_of_ble_eq_true rfl)) dX4_slotInRow_34 ⟨Nat.le_of_ble_eq_true rfl, Nat.le_of_ble_eq_true rfl⟩) hP hD hS hA (fun r_7 u H locs hw hP hD hS => ?_)
      try dsimp only at hw
      refine lv_lconst (v := 1) hx hb dX4_slotInRow_37 (by decide) ?_
      refine W.lcmp hx hb dX4_slotInRow_38 ?_
      refine lv_if_eq (tgt := 44) hx hb dX4_slotInRow_39 (by decide) (fun c_8 => ?_) (fun c_8 => ?_)
      · have kc_8 : r_7.toInt = 1 := by have h9 := x_tri r_7 (1 : Int64); (try simp only [Int64.reduceToInt] at h9); rcases h9 with ⟨g1, g2⟩ | ⟨g1, g2⟩ | ⟨g1, g2⟩ <;> first | omega | (exfalso; rw [g1] at c_8; revert c_8; decide)
        refine lv_lload hx hb dX4_slotInRow_44 (lv_at hl 0 rfl) ?_
        refine lv_lconst (v := 0) hx hb dX4_slotInRow_46 (by decide) ?_
        refine W.lcmp hx hb dX4_slotInRow_47 ?_
        refine lv_if_lt (tgt := 67) hx hb dX4_slotInRow_48 (by decide) (fun c_9 => ?_) (fun c_9 => ?_)
        · have kc_9 : r_4.toInt < 0 := by have h9 := x_tri r_4 (0 : Int64); (try simp only [Int64.reduceToInt] at h9); rcases h9 with ⟨g1, g2⟩ | ⟨g1, g2⟩ | ⟨g1, g2⟩ <;> first | omega | (exfalso; rw [g1] at c_9; revert c_9; decide)
          refine lv_iconst (v := (-1)) hx hb dX4_slotInRow_67 (by decide) ?_
          exact x_iretW (v := (-1)) (u := n_2) hx hb hr hQ ⟨by omega, by omega⟩ hP hD hK hS dX4_slotInRow_68 hlocks
        · have kc_9 : r_4.toInt ≥ 0 := by have h9 := x_tri r_4 (0 : Int64); (try simp only [Int64.reduceToInt] at h9); rcases h9 with ⟨g1, g2⟩ | ⟨g1, g2⟩ | ⟨g1, g2⟩ <;> first | omega | (exfalso; rw [g1] at c_9; revert c_9; decide)
          refine lv_lload hx hb dX4_slotInRow_51 (lv_at hl 0 rfl) ?_
          refine lv_aload_n hx hb dX4_slotInRow_53 rfl (lv_at hl 2 rfl) ?_
          refine va_get (D := D) (ci := 3) (v := .ref (ad 80)) (C := RX4) (T := TX4) (N := 6) hx hb hts inX4 hown hK hP 0 mcw_o0 rfl 2 (by decide) fl20 (fun _ h9 => h9) rfl dX4_slotInRow_54 ?_
          refine va_get (D := D) (ci := 5) (v := .ref (ad 87)) (C := RX6) (T := TX6) (N := 13) hx hb hts inX6 hown hK hP 1 mcw_o1 rfl 6 (by decide) fl104 (fun _ h9 => h9) rfl dX4_slotInRow_57 ?_
          refine lv_iload_n hx hb dX4_slotInRow_60 rfl (lv_at hl 3 rfl) ?_
          refine va_iald hx hb hK hP 5 2 mcw_a5 rfl (x_in (by omega) (by omega)) dX4_slotInRow_61 ?_
          refine lv_topi (fun i_10 ei_10 => ?_)
          have ei_10 : i_10 = (σ.2.2.1 87) (Int32.toNatClampNeg x) := ei_10
          refine lv_i2l hx hb dX4_slotInRow_62 rfl ?_
          refine lv_topl (fun j_11 ej_11 => ?_)
          have vj_11 : j_11.toInt = i_10.toInt := by rw [ej_11]; exact Int32.toInt_toInt64 _
          refine W.lcmp hx hb dX4_slotInRow_63 ?_
          refine lv_if_lt (tgt := 69) hx hb dX4_slotInRow_64 (by decide) (fun c_12 => ?_) (fun c_12 => ?_)
          · have kc_12 : r_4.toInt < j_11.toInt := by have h9 := x_tri r_4 j_11; (try simp only [Int64.reduceToInt] at h9); rcases h9 with ⟨g1, g2⟩ | ⟨g1, g2⟩ | ⟨g1, g2⟩ <;> first | omega | (exfalso; rw [g1] at c_12; revert c_12; decide)
            refine lv_bipush (v := 20) hx hb dX4_slotInRow_69 (by decide) ?_
            refine lv_iload_n hx hb dX4_slotInRow_71 rfl (lv_at hl 3 rfl) ?_
            refine lv_bipush (v := 16) hx hb dX4_slotInRow_72 (by decide) ?_
            refine lv_imul hx hb dX4_slotInRow_74 ?_
            refine lv_topi (fun i_13 ei_13 => ?_)
            refine lv_iadd hx hb dX4_slotInRow_75 ?_
            refine lv_topi (fun i_14 ei_14 => ?_)
            refine lv_lload hx hb dX4_slotInRow_76 (lv_at hl 0 rfl) ?_
            refine lv_l2i hx hb dX4_slotInRow_78 rfl ?_
            refine lv_topi (fun i_15 ei_15 => ?_)
            refine lv_iadd hx hb dX4_slotInRow_79 ?_
            refine lv_topi (fun i_16 ei_16 => ?_)
            exact x_iretW (v := i_16) (u := n_2) hx hb hr hQ ⟨by omega, by omega⟩ hP hD hK hS dX4_slotInRow_80 hlocks
          · have kc_12 : r_4.toInt ≥ j_11.toInt := by have h9 := x_tri r_4 j_11; (try simp only [Int64.reduceToInt] at h9); rcases h9 with ⟨g1, g2⟩ | ⟨g1, g2⟩ | ⟨g1, g2⟩ <;> first | omega | (exfalso; rw [g1] at c_12; revert c_12; decide)
            refine lv_iconst (v := (-1)) hx hb dX4_slotInRow_67 (by decide) ?_
            exact x_iretW (v := (-1)) (u := n_2) hx hb hr hQ ⟨by omega, by omega⟩ hP hD hK hS dX4_slotInRow_68 hlocks
      · have kc_8 : r_7.toInt ≠ 1 := by have h9 := x_tri r_7 (1 : Int64); (try simp only [Int64.reduceToInt] at h9); rcases h9 with ⟨g1, g2⟩ | ⟨g1, g2⟩ | ⟨g1, g2⟩ <;> first | omega | (exfalso; rw [g1] at c_8; revert c_8; decide)
        refine lv_iconst (v := (-1)) hx hb dX4_slotInRow_42 (by decide) ?_
        exact x_iretW (v := (-1)) (u := n_2) hx hb hr hQ ⟨by omega, by omega⟩ hP hD hK hS dX4_slotInRow_43 hlocks

def v_mc_reckon : List Cond := .code yX4_reckon cX4_reckon 6 none :: ([.fieldLink RX4 24 "SlopeRunner$Machine" "tape" "LSlopeRunner$Tape;", .fieldLink RX4 45 "SlopeRunner$Tape" "state" "I"] ++ ((wsV RX4 81 RX4 yX4_pop v_mc_pop) ++ ((wsV RX4 88 RX8 yX8_valueAt v_ka_valueAt) ++ ((wsS RX4 122 yX4_worked v_k_worked) ++ ((wsV RX4 126 RX8 yX8_lay v_ka_lay) ++ ((wsV RX4 69 RX4 yX4_push v_mc_push) ++ (wsX40 ++ wsX80)))))))
theorem g_mc_reckon_0 : GoodIn v_mc_reckon (wsV RX4 81 RX4 yX4_pop v_mc_pop) := goodIn_sub (fun w h => List.mem_cons_of_mem _ (List.mem_append_right _ (List.mem_append_left _ h))) (by decide +kernel)
theorem g_mc_reckon_1 : GoodIn v_mc_reckon (wsV RX4 88 RX8 yX8_valueAt v_ka_valueAt) := goodIn_sub (fun w h => List.mem_cons_of_mem _ (List.mem_append_right _ (List.mem_append_right _ (List.mem_append_left _ h)))) (by decide +kernel)
theorem g_mc_reckon_2 : GoodIn v_mc_reckon (wsS RX4 122 yX4_worked v_k_worked) := goodIn_sub (fun w h => List.mem_cons_of_mem _ (List.mem_append_right _ (List.mem_append_right _ (List.mem_append_right _ (List.mem_append_left _ h))))) (by decide +kernel)
theorem g_mc_reckon_3 : GoodIn v_mc_reckon (wsV RX4 126 RX8 yX8_lay v_ka_lay) := goodIn_sub (fun w h => List.mem_cons_of_mem _ (List.mem_append_right _ (List.mem_append_right _ (List.mem_append_right _ (List.mem_append_right _ (List.mem_append_left _ h)))))) (by decide +kernel)
theorem g_mc_reckon_4 : GoodIn v_mc_reckon (wsV RX4 69 RX4 yX4_push v_mc_push) := goodIn_sub (fun w h => List.mem_cons_of_mem _ (List.mem_append_right _ (List.mem_append_right _ (List.mem_append_right _ (List.mem_append_right _ (List.mem_append_right _ (List.mem_append_left _ h))))))) (by decide +kernel)
set_option maxHeartbeats 4000000 in
set_option maxRecDepth 100000 in
theorem mc_reckon (l : Launch) (D : va_G) (y : Nat → ClassId) (sz : Nat) (ad : Nat → Nat) (σ : OS) (x : Int32) (htop0 : 0 ≤ (σ.1 115).toInt) (htop1 : (σ.1 115).toInt ≤ 64) (hsize0 : 0 ≤ (σ.1 139).toInt) (hsize1 : (σ.1 139).toInt ≤ 1359) (hresults0 : 0 ≤ (σ.1 141).toInt) (hresults1 : (σ.1 141).toInt ≤ 12) (hinputs0 : 0 ≤ (σ.1 137).toInt) (hinputs1 : (σ.1 137).toInt ≤ 8) (hplength0 : 0 ≤ (σ.1 86).toInt) (hplength1 : (σ.1 86).toInt ≤ 700) (hprows0 : 0 ≤ (σ.1 82).toInt) (hprows1 : (σ.1 82).toInt ≤ 4)  (hB133 : bI (σ.2.2.1 133) 0 1358) (hB134 : bI (σ.2.2.1 134) 0 1358) (hB135 : bI (σ.2.2.1 135) 0 1358) : Met l yX4_reckon v_mc_reckon ({ frames := 4, cells := 0, slots := 0, locals := 116 } : Room) (va_Pc [.ref (ad 110), .int x] (xPre D (xT y) (mcw y ad σ) sz)) (va_Qv (fun (u : (Nat → Int32) × (Nat → Int32) × Int32 × Int32 × (Nat → Int32) × (Nat → Int32) × (Nat → Int32) × (Nat → Int64) × Int32 × Int32 × (Nat → Int32) × Int32 × Int32 × Int64 × Int32) => (0 ≤ u.2.2.1.toInt ∧ u.2.2.1.toInt ≤ 64 ∧ 0 ≤ u.2.2.2.2.2.2.2.2.1.toInt ∧ u.2.2.2.2.2.2.2.2.1.toInt ≤ 1359 ∧ 0 ≤ u.2.2.2.2.2.2.2.2.2.2.2.1.toInt ∧ u.2.2.2.2.2.2.2.2.2.2.2.1.toInt ≤ 12) ∧ bI u.2.2.2.2.2.1 0 1358 ∧ bI u.2.2.2.2.2.2.1 0 1358 ∧ bI u.2.2.2.2.2.2.2.2.2.2.1 0 1358) (fun (u : (Nat → Int32) × (Nat → Int32) × Int32 × Int32 × (Nat → Int32) × (Nat → Int32) × (Nat → Int32) × (Nat → Int64) × Int32 × Int32 × (Nat → Int32) × Int32 × Int32 × Int64 × Int32) => xB D (xT y) (va_A (mcw y ad σ) sz) (mcw y ad (sI (sJ (sI (sI (tI (sI (sI (tJ (tI (tI (tI (sI (sI (tI (tI σ 111 u.1) 112 u.2.1) 115 u.2.2.1) 116 u.2.2.2.1) 132 u.2.2.2.2.1) 133 u.2.2.2.2.2.1) 134 u.2.2.2.2.2.2.1) 131 u.2.2.2.2.2.2.2.1) 139 u.2.2.2.2.2.2.2.2.1) 140 u.2.2.2.2.2.2.2.2.2.1) 135 u.2.2.2.2.2.2.2.2.2.2.1) 141 u.2.2.2.2.2.2.2.2.2.2.2.1) 142 u.2.2.2.2.2.2.2.2.2.2.2.2.1) 143 u.2.2.2.2.2.2.2.2.2.2.2.2.2.1) 136 u.2.2.2.2.2.2.2.2.2.2.2.2.2.2))) (va_A (mcw y ad σ) sz)) 0 0 (va_A (mcw y ad σ) sz) := by
  refine x_metv (cc := cX4_reckon) (maxL := 6) (by decide) rfl (Nat.le_of_ble_eq_true rfl) ?_
  intro p e s m below meth c A H locs Q hx hb hml hown hts hr hlocks hmn hA hP hK hD hS ls hl hQ
  have hl : lv_has ls 6 [(0, .ref (ad 110)), (1, .int x)] := hl
  have fl24 := hts (.fieldLink RX4 24 "SlopeRunner$Machine" "tape" "LSlopeRunner$Tape;") (List.mem_of_getElem? (i := 1) rfl)
  have inX4 : ∀ w ∈ wsX40, w ∈ v_mc_reckon := (fun w h => List.mem_cons_of_mem _ (List.mem_append_right _ (List.mem_append_right _ (List.mem_append_right _ (List.mem_append_right _ (List.mem_append_right _ (List.mem_append_right _ (List.mem_append_left _ h))))))))
  have fl45 := hts (.fieldLink RX4 45 "SlopeRunner$Tape" "state" "I") (List.mem_of_getElem? (i := 2) rfl)
  have inX8 : ∀ w ∈ wsX80, w ∈ v_mc_reckon := (fun w h => List.mem_cons_of_mem _ (List.mem_append_right _ (List.mem_append_right _ (List.mem_append_right _ (List.mem_append_right _ (List.mem_append_right _ (List.mem_append_right _ (List.mem_append_right _ h))))))))
  refine lv_aload_n hx hb dX4_reckon_0 rfl (lv_at hl 0 rfl) ?_
  refine x_calliW (va_runV (As := []) (rest := []) ⟨hx, hb, hml, hown, hts⟩ (mc_pop l D y H.size ad σ (show 0 ≤ ((σ.1 115)).toInt from by first | omega | decide) (show ((σ.1 115)).toInt ≤ 64 from by first | omega | decide)) (cwV 0 hts g_mc_reckon_0 rfl rfl rfl (by decide +kernel) ⟨Nat.le_of_ble_eq_true rfl, Nat.le_of_ble_eq_true rfl⟩) (x_preV (q := (RX4, TX4, 6)) hK hP hD (ci := 3) (q0 := 0) rfl mcw_o0) rfl rfl hl.1 rfl (lv_room (Nat.le_of_ble_eq_true rfl)) dX4_reckon_1 ⟨Nat.le_of_ble_eq_true rfl, Nat.le_of_ble_eq_true rfl⟩) hP hD hS hA (fun r_1 u H locs hw hP hD hS => ?_)
  obtain ⟨n_2, rfl⟩ : ∃ z9, z9 = u := ⟨_, rfl⟩
  try dsimp only at hw
  have hP : va_P D vwCl (mcw y ad (sI σ 115 n_2)) H := hP
  have hD : va_D A (mcw y ad (sI σ 115 n_2)) := hD
  replace hw : 0 ≤ n_2.toInt ∧ n_2.toInt ≤ 64 := hw
  refine lv_istore_n (lv' := [(2, .int r_1), (0, .ref (ad 110)), (1, .int x)]) hx hb dX4_reckon_4 rfl hl (by decide) rfl (fun ls hl => ?_)
  refine lv_aload_n hx hb dX4_reckon_5 rfl (lv_at hl 1 rfl) ?_
  refine x_calliW (va_runV (As := []) (rest := []) ⟨hx, hb, hml, hown, hts⟩ (mc_pop l D y H.size ad (sI σ 115 n_2) (show 0 ≤ (n_2).toInt from by first | omega | decide) (show (n_2).toInt ≤ 64 from by first | omega | decide)) (cwV 0 hts g_mc_reckon_0 rfl rfl rfl (by decide +kernel) ⟨Nat.le_of_ble_eq_true rfl, Nat.le_of_ble_eq_true rfl⟩) (x_preV (q := (RX4, TX4, 6)) hK hP hD (ci := 3) (q0 := 0) rfl mcw_o0) rfl rfl hl.1 rfl (lv_room (Nat.le_of_ble_eq_true rfl)) dX4_reckon_6 ⟨Nat.le_of_ble_eq_true rfl, Nat.le_of_ble_eq_true rfl⟩) hP hD hS hA (fun r_3 u H locs hw hP hD hS => ?_)
  obtain ⟨n_4, rfl⟩ : ∃ z9, z9 = u := ⟨_, rfl⟩
  try dsimp only at hw
  have hP : va_P D vwCl (mcw y ad (sI (sI σ 115 n_2) 115 n_4)) H := hP
  have hD : va_D A (mcw y ad (sI (sI σ 115 n_2) 115 n_4)) := hD
  replace hw : 0 ≤ n_4.toInt ∧ n_4.toInt ≤ 64 := hw
  refine lv_istore_n (lv' := [(3, .int r_3), (2, .int r_1), (0, .ref (ad 110)), (1, .int x)]) hx hb dX4_reckon_9 rfl hl (by decide) rfl (fun ls hl => ?_)
  refine lv_iload_n hx hb dX4_reckon_10 rfl (lv_at hl 3 rfl) ?_
  refine lv_aload_n hx hb dX4_reckon_11 rfl (lv_at hl 2 rfl) ?_
  refine va_get (D := D) (ci := 3) (v := .ref (ad 130)) (C := RX4) (T := TX4) (N := 6) hx hb hts inX4 hown hK hP 0 mcw_o0 rfl 3 (by decide) fl24 (fun _ h9 => h9) rfl dX4_reckon_12 ?_
  refine lv_iload_n hx hb dX4_reckon_15 rfl (lv_at hl 0 rfl) ?_
  have hPs : va_P D vwCl (tpw y ad (sI (sI σ 115 n_2) 115 n_4)) H := x_suP hP [2, 11, 12, 13, 14, 15] rfl
  have hDs : va_D A (tpw y ad (sI (sI σ 115 n_2) 115 n_4)) := x_suD hD [2, 11, 12, 13, 14, 15] rfl (by decide)
  refine x_calllS (b1 := fun (u : Unit) => (mcw y ad (sI (sI σ 115 n_2) 115 n_4))) [2, 11, 12, 13, 14, 15] (va_runV (As := [.int r_3]) (rest := [.int x]) ⟨hx, hb, hml, hown, hts⟩ (ka_valueAt l D y H.size ad (sI (sI σ 115 n_2) 115 n_4) r_3 (show 0 ≤ ((σ.1 139)).toInt from by first | omega | decide) (show ((σ.1 139)).toInt ≤ 1359 from by first | omega | decide)) (cwV 1 hts g_mc_reckon_1 rfl rfl rfl (by decide +kernel) ⟨Nat.le_of_ble_eq_true rfl, Nat.le_of_ble_eq_true rfl⟩) (x_preV (q := (RX8, TX8, 13)) hK hPs hDs (ci := 7) (q0 := 0) rfl tpw_o0) rfl rfl hl.1 rfl (lv_room (Nat.le_of_ble_eq_true rfl)) dX4_reckon_16 ⟨Nat.le_of_ble_eq_true rfl, Nat.le_of_ble_eq_true rfl⟩) hP hD hS hA rfl (fun _ => rfl) (fun _ => rfl) (fun _ => rfl) (fun r_5 u H locs hw hP hD hS => ?_)
  try dsimp only at hw
  have hP : va_P D vwCl (mcw y ad (sI (sI σ 115 n_2) 115 n_4)) H := hP
  have hD : va_D A (mcw y ad (sI (sI σ 115 n_2) 115 n_4)) := hD
  refine lv_aload_n hx hb dX4_reckon_19 rfl (lv_at hl 2 rfl) ?_
  refine va_get (D := D) (ci := 3) (v := .ref (ad 130)) (C := RX4) (T := TX4) (N := 6) hx hb hts inX4 hown hK hP 0 mcw_o0 rfl 3 (by decide) fl24 (fun _ h9 => h9) rfl dX4_reckon_20 ?_
  refine lv_iload_n hx hb dX4_reckon_23 rfl (lv_at hl 1 rfl) ?_
  have hPs : va_P D vwCl (tpw y ad (sI (sI σ 115 n_2) 115 n_4)) H := x_suP hP [2, 11, 12, 13, 14, 15] rfl
  have hDs : va_D A (tpw y ad (sI (sI σ 115 n_2) 115 n_4)) := x_suD hD [2, 11, 12, 13, 14, 15] rfl (by decide)
  refine x_calllS (b1 := fun (u : Unit) => (mcw y ad (sI (sI σ 115 n_2) 115 n_4))) [2, 11, 12, 13, 14, 15] (va_runV (As := [.int r_1]) (rest := [.long r_5, .int x]) ⟨hx, hb, hml, hown, hts⟩ (ka_valueAt l D y H.size ad (sI (sI σ 115 n_2) 115 n_4) r_1 (show 0 ≤ ((σ.1 139)).toInt from by first | omega | decide) (show ((σ.1 139)).toInt ≤ 1359 from by first | omega | decide)) (cwV 1 hts g_mc_reckon_1 rfl rfl rfl (by decide +kernel) ⟨Nat.le_of_ble_eq_true rfl, Nat.le_of_ble_eq_true rfl⟩) (x_preV (q := (RX8, TX8, 13)) hK hPs hDs (ci := 7) (q0 := 0) rfl tpw_o0) rfl rfl hl.1 rfl (lv_room (Nat.le_of_ble_eq_true rfl)) dX4_reckon_24 ⟨Nat.le_of_ble_eq_true rfl, Nat.le_of_ble_eq_true rfl⟩) hP hD hS hA rfl (fun _ => rfl) (fun _ => rfl) (fun _ => rfl) (fun r_6 u H locs hw hP hD hS => ?_)
  try dsimp only at hw
  have hP : va_P D vwCl (mcw y ad (sI (sI σ 115 n_2) 115 n_4)) H := hP
  have hD : va_D A (mcw y ad (sI (sI σ 115 n_2) 115 n_4)) := hD
  refine x_calllN (va_runS (As := [.int x, .long r_5, .long r_6]) (rest := []) ⟨hx, hb, hml, hown, hts⟩ (k_worked l D y H.size x r_5 r_6) (cwS 3 hts g_mc_reckon_2 rfl rfl rfl (by decide +kernel) ⟨Nat.le_of_ble_eq_true rfl, Nat.le_of_ble_eq_true rfl⟩) (x_preS hK (x_nilP D H) (x_nilD A)) rfl rfl hl.1 rfl (lv_room (Nat.le_of_ble_eq_true rfl)) dX4_reckon_27 ⟨Nat.le_of_ble_eq_true rfl, Nat.le_of_ble_eq_true rfl⟩) hP hD hS hA (fun r_7 u H locs hw hP hD hS => ?_)
  try dsimp only at hw
  refine lv_lstore (lv' := [(4, .long r_7), (3, .int r_3), (2, .int r_1), (0, .ref (ad 110)), (1, .int x)]) hx hb dX4_reckon_30 hl (by decide) rfl (fun ls hl => ?_)
  refine lv_lload hx hb dX4_reckon_32 (lv_at hl 0 rfl) ?_
  refine lv_lconst (v := 0) hx hb dX4_reckon_34 (by decide) ?_
  refine W.lcmp hx hb dX4_reckon_35 ?_
  refine lv_if_ne (tgt := 50) hx hb dX4_reckon_36 (by decide) (fun c_8 => ?_) (fun c_8 => ?_)
  · have kc_8 : r_7.toInt ≠ 0 := by have h9 := x_tri r_7 (0 : Int64); (try simp only [Int64.reduceToInt] at h9); rcases h9 with ⟨g1, g2⟩ | ⟨g1, g2⟩ | ⟨g1, g2⟩ <;> first | omega | (exfalso; rw [g1] at c_8; revert c_8; decide)
    refine lv_aload_n hx hb dX4_reckon_50 rfl (lv_at hl 3 rfl) ?_
    refine lv_aload_n hx hb dX4_reckon_51 rfl (lv_at hl 3 rfl) ?_
    refine va_get (D := D) (ci := 3) (v := .ref (ad 130)) (C := RX4) (T := TX4) (N := 6) hx hb hts inX4 hown hK hP 0 mcw_o0 rfl 3 (by decide) fl24 (fun _ h9 => h9) rfl dX4_reckon_52 ?_
    refine lv_iload_n hx hb dX4_reckon_55 rfl (lv_at hl 4 rfl) ?_
    refine lv_iload_n hx hb dX4_reckon_56 rfl (lv_at hl 1 rfl) ?_
    refine lv_iload_n hx hb dX4_reckon_57 rfl (lv_at hl 2 rfl) ?_
    refine lv_lload hx hb dX4_reckon_58 (lv_at hl 0 rfl) ?_
    have hPs : va_P D vwCl (tpw y ad (sI (sI σ 115 n_2) 115 n_4)) H := x_suP hP [2, 11, 12, 13, 14, 15] rfl
    have hDs : va_D A (tpw y ad (sI (sI σ 115 n_2) 115 n_4)) := x_suD hD [2, 11, 12, 13, 14, 15] rfl (by decide)
    refine x_calliS (b1 := fun (u : (Nat → Int32) × (Nat → Int32) × (Nat → Int32) × (Nat → Int64) × Int32 × Int32) => (mcw y ad (sI (sI (tJ (tI (tI (tI (sI (sI σ 115 n_2) 115 n_4) 132 u.1) 133 u.2.1) 134 u.2.2.1) 131 u.2.2.2.1) 139 u.2.2.2.2.1) 140 u.2.2.2.2.2))) [2, 11, 12, 13, 14, 15] (va_runV (As := [.int x, .int r_3, .int r_1, .long r_7]) (rest := [.ref (ad 110)]) ⟨hx, hb, hml, hown, hts⟩ (ka_lay l D y H.size ad (sI (sI σ 115 n_2) 115 n_4) x r_3 r_1 r_7 (show 0 ≤ ((σ.1 139)).toInt from by first | omega | decide) (show ((σ.1 139)).toInt ≤ 1359 from by first | omega | decide) hB133 hB134) (cwV 4 hts g_mc_reckon_3 rfl rfl rfl (by decide +kernel) ⟨Nat.le_of_ble_eq_true rfl, Nat.le_of_ble_eq_true rfl⟩) (x_preV (q := (RX8, TX8, 13)) hK hPs hDs (ci := 7) (q0 := 0) rfl tpw_o0) rfl rfl hl.1 rfl (lv_room (Nat.le_of_ble_eq_true rfl)) dX4_reckon_60 ⟨Nat.le_of_ble_eq_true rfl, Nat.le_of_ble_eq_true rfl⟩) hP hD hS hA rfl (fun _ => rfl) (fun _ => rfl) (fun _ => rfl) (fun r_9 u H locs hw hP hD hS => ?_)
    obtain ⟨f_10, f_11, f_12, f_13, n_14, n_15⟩ := u
    try dsimp only at hw
    have hP : va_P D vwCl (mcw y ad (sI (sI (tJ (tI (tI (tI (sI (sI σ 115 n_2) 115 n_4) 132 f_10) 133 f_11) 134 f_12) 131 f_13) 139 n_14) 140 n_15)) H := hP
    have hD : va_D A (mcw y ad (sI (sI (tJ (tI (tI (tI (sI (sI σ 115 n_2) 115 n_4) 132 f_10) 133 f_11) 134 f_12) 131 f_13) 139 n_14) 140 n_15)) := hD
    replace hw : (0 ≤ n_14.toInt ∧ n_14.toInt ≤ 1359) ∧ bI f_11 0 1358 ∧ bI f_12 0 1358 := hw
    obtain ⟨hw, hg_16, hg_17⟩ := hw
    refine x_callvW (va_runV (As := [.int r_9]) (rest := []) ⟨hx, hb, hml, hown, hts⟩ (mc_push l D y H.size ad (sI (sI (tJ (tI (tI (tI (sI (sI σ 115 n_2) 115 n_4) 132 f_10) 133 f_11) 134 f_12) 131 f_13) 139 n_14) 140 n_15) r_9 (show 0 ≤ (n_4).toInt from by first | omega | decide) (show (n_4).toInt ≤ 64 from by first | omega | decide)) (cwV 1 hts g_mc_reckon_4 rfl rfl rfl (by decide +kernel) ⟨Nat.le_of_ble_eq_true rfl, Nat.le_of_ble_eq_true rfl⟩) (x_preV (q := (RX4, TX4, 6)) hK hP hD (ci := 3) (q0 := 0) rfl mcw_o0) rfl rfl hl.1 rfl (lv_room (Nat.le_of_ble_eq_true rfl)) dX4_reckon_63 ⟨Nat.le_of_ble_eq_true rfl, Nat.le_of_ble_eq_true rfl⟩) hP hD hS hA (fun u H locs hw hP hD hS => ?_)
    obtain ⟨f_18, n_19⟩ := u
    try dsimp only at hw
    have hP : va_P D vwCl (mcw y ad (sI (tI (sI (sI (tJ (tI (tI (tI (sI (sI σ 115 n_2) 115 n_4) 132 f_10) 133 f_11) 134 f_12) 131 f_13) 139 n_14) 140 n_15) 111 f_18) 115 n_19)) H := hP
    have hD : va_D A (mcw y ad (sI (tI (sI (sI (tJ (tI (tI (tI (sI (sI σ 115 n_2) 115 n_4) 132 f_10) 133 f_11) 134 f_12) 131 f_13) 139 n_14) 140 n_15) 111 f_18) 115 n_19)) := hD
    replace hw : 0 ≤ n_19.toInt ∧ n_19.toInt ≤ 64 := hw
    have hP : va_P D vwCl (mcw y ad (sI (sJ (sI (sI (tI (sI (sI (tJ (tI (tI (tI (sI (sI (tI (tI σ 111 f_18) 112 (σ.2.2.1 112)) 115 n_19) 116 (σ.1 116)) 132 f_10) 133 f_11) 134 f_12) 131 f_13) 139 n_14) 140 n_15) 135 (σ.2.2.1 135)) 141 (σ.1 141)) 142 (σ.1 142)) 143 (σ.2.1 143)) 136 (σ.1 136))) H := hP
    have hD : va_D A (mcw y ad (sI (sJ (sI (sI (tI (sI (sI (tJ (tI (tI (tI (sI (sI (tI (tI σ 111 f_18) 112 (σ.2.2.1 112)) 115 n_19) 116 (σ.1 116)) 132 f_10) 133 f_11) 134 f_12) 131 f_13) 139 n_14) 140 n_15) 135 (σ.2.2.1 135)) 141 (σ.1 141)) 142 (σ.1 142)) 143 (σ.2.1 143)) 136 (σ.1 136))) := hD
    exact x_vretW (u := (f_18, (σ.2.2.1 112), n_19, (σ.1 116), f_10, f_11, f_12, f_13, n_14, n_15, (σ.2.2.1 135), (σ.1 141), (σ.1 142), (σ.2.1 143), (σ.1 136))) hx hb hr hQ (by (try dsimp only); exact ⟨⟨by omega, by omega, by omega, by omega, by omega, by omega⟩, hg_16, hg_17, hB135⟩) hP hD hK hS dX4_reckon_66 hlocks
  · have kc_8 : r_7.toInt = 0 := by have h9 := x_tri r_7 (0 : Int64); (try simp only [Int64.reduceToInt] at h9); rcases h9 with ⟨g1, g2⟩ | ⟨g1, g2⟩ | ⟨g1, g2⟩ <;> first | omega | (exfalso; rw [g1] at c_8; revert c_8; decide)
    refine lv_aload_n hx hb dX4_reckon_39 rfl (lv_at hl 3 rfl) ?_
    refine va_get (D := D) (ci := 3) (v := .ref (ad 130)) (C := RX4) (T := TX4) (N := 6) hx hb hts inX4 hown hK hP 0 mcw_o0 rfl 3 (by decide) fl24 (fun _ h9 => h9) rfl dX4_reckon_40 ?_
    refine lv_iconst (v := 1) hx hb dX4_reckon_43 (by decide) ?_
    refine va_put (D := D) (ci := 7) (v := .int 1) (ty := .int) (C := RX8) (T := TX8) (N := 13) hx hb hts inX8 tyX8 tyX8_ok nmX8 hown hK hP hD hS 2 mcw_o2 rfl 5 (by decide) fl45 (fun _ h9 => h9) rfl (by decide +kernel) rfl rfl (Nat.le_of_ble_eq_true rfl) dX4_reckon_44 (fun H locs hP hD hS => ?_)
    have hP : va_P D vwCl (mcw y ad (sI (sI (sI σ 115 n_2) 115 n_4) 136 1)) H := x_trP hP mcw_p2_5
    have hD : va_D A (mcw y ad (sI (sI (sI σ 115 n_2) 115 n_4) 136 1)) := x_trD hD mcw_p2_5
    refine lv_goto (tgt := 66) hx hb dX4_reckon_47 (by decide) ?_
    have hP : va_P D vwCl (mcw y ad (sI (sJ (sI (sI (tI (sI (sI (tJ (tI (tI (tI (sI (sI (tI (tI σ 111 (σ.2.2.1 111)) 112 (σ.2.2.1 112)) 115 n_4) 116 (σ.1 116)) 132 (σ.2.2.1 132)) 133 (σ.2.2.1 133)) 134 (σ.2.2.1 134)) 131 (σ.2.2.2 131)) 139 (σ.1 139)) 140 (σ.1 140)) 135 (σ.2.2.1 135)) 141 (σ.1 141)) 142 (σ.1 142)) 143 (σ.2.1 143)) 136 1)) H := hP
    have hD : va_D A (mcw y ad (sI (sJ (sI (sI (tI (sI (sI (tJ (tI (tI (tI (sI (sI (tI (tI σ 111 (σ.2.2.1 111)) 112 (σ.2.2.1 112)) 115 n_4) 116 (σ.1 116)) 132 (σ.2.2.1 132)) 133 (σ.2.2.1 133)) 134 (σ.2.2.1 134)) 131 (σ.2.2.2 131)) 139 (σ.1 139)) 140 (σ.1 140)) 135 (σ.2.2.1 135)) 141 (σ.1 141)) 142 (σ.1 142)) 143 (σ.2.1 143)) 136 1)) := hD
    exact x_vretW (u := ((σ.2.2.1 111), (σ.2.2.1 112), n_4, (σ.1 116), (σ.2.2.1 132), (σ.2.2.1 133), (σ.2.2.1 134), (σ.2.2.2 131), (σ.1 139), (σ.1 140), (σ.2.2.1 135), (σ.1 141), (σ.1 142), (σ.2.1 143), 1)) hx hb hr hQ (by (try dsimp only); exact ⟨⟨by omega, by omega, by omega, by omega, by omega, by omega⟩, hB133, hB134, hB135⟩) hP hD hK hS dX4_reckon_66 hlocks

def v_mc_dropSign : List Cond := .code yX4_dropSign cX4_dropSign 5 none :: ([.fieldLink RX4 24 "SlopeRunner$Machine" "tape" "LSlopeRunner$Tape;"] ++ ((wsV RX4 81 RX4 yX4_pop v_mc_pop) ++ ((wsV RX4 88 RX8 yX8_valueAt v_ka_valueAt) ++ ((wsV RX4 143 RX8 yX8_meet v_ka_meet) ++ ((va_wsS RX4 92 yX0_above v_k_above) ++ ((va_wsS RX4 147 yX0_withoutSign v_k_withoutSign) ++ ((wsV RX4 126 RX8 yX8_lay v_ka_lay) ++ ((wsV RX4 69 RX4 yX4_push v_mc_push) ++ wsX40))))))))
theorem g_mc_dropSign_0 : GoodIn v_mc_dropSign (wsV RX4 81 RX4 yX4_pop v_mc_pop) := goodIn_sub (fun w h => List.mem_cons_of_mem _ (List.mem_append_right _ (List.mem_append_left _ h))) (by decide +kernel)
theorem g_mc_dropSign_1 : GoodIn v_mc_dropSign (wsV RX4 88 RX8 yX8_valueAt v_ka_valueAt) := goodIn_sub (fun w h => List.mem_cons_of_mem _ (List.mem_append_right _ (List.mem_append_right _ (List.mem_append_left _ h)))) (by decide +kernel)
theorem g_mc_dropSign_2 : GoodIn v_mc_dropSign (wsV RX4 143 RX8 yX8_meet v_ka_meet) := goodIn_sub (fun w h => List.mem_cons_of_mem _ (List.mem_append_right _ (List.mem_append_right _ (List.mem_append_right _ (List.mem_append_left _ h))))) (by decide +kernel)
theorem g_mc_dropSign_3 : GoodIn v_mc_dropSign (va_wsS RX4 92 yX0_above v_k_above) := goodIn_sub (fun w h => List.mem_cons_of_mem _ (List.mem_append_right _ (List.mem_append_right _ (List.mem_append_right _ (List.mem_append_right _ (List.mem_append_left _ h)))))) (by decide +kernel)
theorem g_mc_dropSign_4 : GoodIn v_mc_dropSign (va_wsS RX4 147 yX0_withoutSign v_k_withoutSign) := goodIn_sub (fun w h => List.mem_cons_of_mem _ (List.mem_append_right _ (List.mem_append_right _ (List.mem_append_right _ (List.mem_append_right _ (List.mem_append_right _ (List.mem_append_left _ h))))))) (by decide +kernel)
theorem g_mc_dropSign_5 : GoodIn v_mc_dropSign (wsV RX4 126 RX8 yX8_lay v_ka_lay) := goodIn_sub (fun w h => List.mem_cons_of_mem _ (List.mem_append_right _ (List.mem_append_right _ (List.mem_append_right _ (List.mem_append_right _ (List.mem_append_right _ (List.mem_append_right _ (List.mem_append_left _ h)))))))) (by decide +kernel)
theorem g_mc_dropSign_6 : GoodIn v_mc_dropSign (wsV RX4 69 RX4 yX4_push v_mc_push) := goodIn_sub (fun w h => List.mem_cons_of_mem _ (List.mem_append_right _ (List.mem_append_right _ (List.mem_append_right _ (List.mem_append_right _ (List.mem_append_right _ (List.mem_append_right _ (List.mem_append_right _ (List.mem_append_left _ h))))))))) (by decide +kernel)
set_option maxHeartbeats 4000000 in
set_option maxRecDepth 100000 in
theorem mc_dropSign (l : Launch) (D : va_G) (y : Nat → ClassId) (sz : Nat) (ad : Nat → Nat) (σ : OS) (htop0 : 0 ≤ (σ.1 115).toInt) (htop1 : (σ.1 115).toInt ≤ 64) (hsize0 : 0 ≤ (σ.1 139).toInt) (hsize1 : (σ.1 139).toInt ≤ 1359) (hresults0 : 0 ≤ (σ.1 141).toInt) (hresults1 : (σ.1 141).toInt ≤ 12) (hinputs0 : 0 ≤ (σ.1 137).toInt) (hinputs1 : (σ.1 137).toInt ≤ 8) (hplength0 : 0 ≤ (σ.1 86).toInt) (hplength1 : (σ.1 86).toInt ≤ 700) (hprows0 : 0 ≤ (σ.1 82).toInt) (hprows1 : (σ.1 82).toInt ≤ 4)  (hB133 : bI (σ.2.2.1 133) 0 1358) (hB134 : bI (σ.2.2.1 134) 0 1358) (hB135 : bI (σ.2.2.1 135) 0 1358) : Met l yX4_dropSign v_mc_dropSign ({ frames := 4, cells := 0, slots := 0, locals := 118 } : Room) (va_Pc [.ref (ad 110)] (xPre D (xT y) (mcw y ad σ) sz)) (va_Qv (fun (u : (Nat → Int32) × (Nat → Int32) × Int32 × Int32 × (Nat → Int32) × (Nat → Int32) × (Nat → Int32) × (Nat → Int64) × Int32 × Int32 × (Nat → Int32) × Int32 × Int32 × Int64 × Int32) => (0 ≤ u.2.2.1.toInt ∧ u.2.2.1.toInt ≤ 64 ∧ 0 ≤ u.2.2.2.2.2.2.2.2.1.toInt ∧ u.2.2.2.2.2.2.2.2.1.toInt ≤ 1359 ∧ 0 ≤ u.2.2.2.2.2.2.2.2.2.2.2.1.toInt ∧ u.2.2.2.2.2.2.2.2.2.2.2.1.toInt ≤ 12) ∧ bI u.2.2.2.2.2.1 0 1358 ∧ bI u.2.2.2.2.2.2.1 0 1358 ∧ bI u.2.2.2.2.2.2.2.2.2.2.1 0 1358) (fun (u : (Nat → Int32) × (Nat → Int32) × Int32 × Int32 × (Nat → Int32) × (Nat → Int32) × (Nat → Int32) × (Nat → Int64) × Int32 × Int32 × (Nat → Int32) × Int32 × Int32 × Int64 × Int32) => xB D (xT y) (va_A (mcw y ad σ) sz) (mcw y ad (sI (sJ (sI (sI (tI (sI (sI (tJ (tI (tI (tI (sI (sI (tI (tI σ 111 u.1) 112 u.2.1) 115 u.2.2.1) 116 u.2.2.2.1) 132 u.2.2.2.2.1) 133 u.2.2.2.2.2.1) 134 u.2.2.2.2.2.2.1) 131 u.2.2.2.2.2.2.2.1) 139 u.2.2.2.2.2.2.2.2.1) 140 u.2.2.2.2.2.2.2.2.2.1) 135 u.2.2.2.2.2.2.2.2.2.2.1) 141 u.2.2.2.2.2.2.2.2.2.2.2.1) 142 u.2.2.2.2.2.2.2.2.2.2.2.2.1) 143 u.2.2.2.2.2.2.2.2.2.2.2.2.2.1) 136 u.2.2.2.2.2.2.2.2.2.2.2.2.2.2))) (va_A (mcw y ad σ) sz)) 0 0 (va_A (mcw y ad σ) sz) := by
  refine x_metv (cc := cX4_dropSign) (maxL := 5) (by decide) rfl (Nat.le_of_ble_eq_true rfl) ?_
  intro p e s m below meth c A H locs Q hx hb hml hown hts hr hlocks hmn hA hP hK hD hS ls hl hQ
  have hl : lv_has ls 5 [(0, .ref (ad 110))] := hl
  have fl24 := hts (.fieldLink RX4 24 "SlopeRunner$Machine" "tape" "LSlopeRunner$Tape;") (List.mem_of_getElem? (i := 1) rfl)
  have inX4 : ∀ w ∈ wsX40, w ∈ v_mc_dropSign := (fun w h => List.mem_cons_of_mem _ (List.mem_append_right _ (List.mem_append_right _ (List.mem_append_right _ (List.mem_append_right _ (List.mem_append_right _ (List.mem_append_right _ (List.mem_append_right _ (List.mem_append_right _ h)))))))))
  have kl_1 : (1 : Int64).toInt = 1 := rfl
  have kk_30 : (30 : Int32).toInt = 30 := rfl
  have kk_31 : (31 : Int32).toInt = 31 := rfl
  refine lv_aload_n hx hb dX4_dropSign_0 rfl (lv_at hl 0 rfl) ?_
  refine x_calliW (va_runV (As := []) (rest := []) ⟨hx, hb, hml, hown, hts⟩ (mc_pop l D y H.size ad σ (show 0 ≤ ((σ.1 115)).toInt from by first | omega | decide) (show ((σ.1 115)).toInt ≤ 64 from by first | omega | decide)) (cwV 0 hts g_mc_dropSign_0 rfl rfl rfl (by decide +kernel) ⟨Nat.le_of_ble_eq_true rfl, Nat.le_of_ble_eq_true rfl⟩) (x_preV (q := (RX4, TX4, 6)) hK hP hD (ci := 3) (q0 := 0) rfl mcw_o0) rfl rfl hl.1 rfl (lv_room (Nat.le_of_ble_eq_true rfl)) dX4_dropSign_1 ⟨Nat.le_of_ble_eq_true rfl, Nat.le_of_ble_eq_true rfl⟩) hP hD hS hA (fun r_1 u H locs hw hP hD hS => ?_)
  obtain ⟨n_2, rfl⟩ : ∃ z9, z9 = u := ⟨_, rfl⟩
  try dsimp only at hw
  have hP : va_P D vwCl (mcw y ad (sI σ 115 n_2)) H := hP
  have hD : va_D A (mcw y ad (sI σ 115 n_2)) := hD
  replace hw : 0 ≤ n_2.toInt ∧ n_2.toInt ≤ 64 := hw
  refine lv_istore_n (lv' := [(1, .int r_1), (0, .ref (ad 110))]) hx hb dX4_dropSign_4 rfl hl (by decide) rfl (fun ls hl => ?_)
  refine lv_aload_n hx hb dX4_dropSign_5 rfl (lv_at hl 1 rfl) ?_
  refine va_get (D := D) (ci := 3) (v := .ref (ad 130)) (C := RX4) (T := TX4) (N := 6) hx hb hts inX4 hown hK hP 0 mcw_o0 rfl 3 (by decide) fl24 (fun _ h9 => h9) rfl dX4_dropSign_6 ?_
  refine lv_iload_n hx hb dX4_dropSign_9 rfl (lv_at hl 0 rfl) ?_
  have hPs : va_P D vwCl (tpw y ad (sI σ 115 n_2)) H := x_suP hP [2, 11, 12, 13, 14, 15] rfl
  have hDs : va_D A (tpw y ad (sI σ 115 n_2)) := x_suD hD [2, 11, 12, 13, 14, 15] rfl (by decide)
  refine x_calllS (b1 := fun (u : Unit) => (mcw y ad (sI σ 115 n_2))) [2, 11, 12, 13, 14, 15] (va_runV (As := [.int r_1]) (rest := []) ⟨hx, hb, hml, hown, hts⟩ (ka_valueAt l D y H.size ad (sI σ 115 n_2) r_1 (show 0 ≤ ((σ.1 139)).toInt from by first | omega | decide) (show ((σ.1 139)).toInt ≤ 1359 from by first | omega | decide)) (cwV 1 hts g_mc_dropSign_1 rfl rfl rfl (by decide +kernel) ⟨Nat.le_of_ble_eq_true rfl, Nat.le_of_ble_eq_true rfl⟩) (x_preV (q := (RX8, TX8, 13)) hK hPs hDs (ci := 7) (q0 := 0) rfl tpw_o0) rfl rfl hl.1 rfl (lv_room (Nat.le_of_ble_eq_true rfl)) dX4_dropSign_10 ⟨Nat.le_of_ble_eq_true rfl, Nat.le_of_ble_eq_true rfl⟩) hP hD hS hA rfl (fun _ => rfl) (fun _ => rfl) (fun _ => rfl) (fun r_3 u H locs hw hP hD hS => ?_)
  try dsimp only at hw
  have hP : va_P D vwCl (mcw y ad (sI σ 115 n_2)) H := hP
  have hD : va_D A (mcw y ad (sI σ 115 n_2)) := hD
  refine lv_lstore_n (lv' := [(2, .long r_3), (1, .int r_1), (0, .ref (ad 110))]) hx hb dX4_dropSign_13 rfl hl (by decide) rfl (fun ls hl => ?_)
  refine lv_aload_n hx hb dX4_dropSign_14 rfl (lv_at hl 2 rfl) ?_
  refine va_get (D := D) (ci := 3) (v := .ref (ad 130)) (C := RX4) (T := TX4) (N := 6) hx hb hts inX4 hown hK hP 0 mcw_o0 rfl 3 (by decide) fl24 (fun _ h9 => h9) rfl dX4_dropSign_15 ?_
  refine lv_lload_n hx hb dX4_dropSign_18 rfl (lv_at hl 0 rfl) ?_
  refine lv_lconst (v := 1) hx hb dX4_dropSign_19 (by decide) ?_
  have hPs : va_P D vwCl (tpw y ad (sI σ 115 n_2)) H := x_suP hP [2, 11, 12, 13, 14, 15] rfl
  have hDs : va_D A (tpw y ad (sI σ 115 n_2)) := x_suD hD [2, 11, 12, 13, 14, 15] rfl (by decide)
  refine x_callvS (b1 := fun (u : Int32 × Int64) => (mcw y ad (sJ (sI (sI σ 115 n_2) 142 u.1) 143 u.2))) [2, 11, 12, 13, 14, 15] (va_runV (As := [.long r_3, .long 1]) (rest := []) ⟨hx, hb, hml, hown, hts⟩ (ka_meet l D y H.size ad (sI σ 115 n_2) r_3 1) (cwV 2 hts g_mc_dropSign_2 rfl rfl rfl (by decide +kernel) ⟨Nat.le_of_ble_eq_true rfl, Nat.le_of_ble_eq_true rfl⟩) (x_preV (q := (RX8, TX8, 13)) hK hPs hDs (ci := 7) (q0 := 0) rfl tpw_o0) rfl rfl hl.1 rfl (lv_room (Nat.le_of_ble_eq_true rfl)) dX4_dropSign_20 ⟨Nat.le_of_ble_eq_true rfl, Nat.le_of_ble_eq_true rfl⟩) hP hD hS hA rfl (fun _ => rfl) (fun _ => rfl) (fun _ => rfl) (fun u H locs hw hP hD hS => ?_)
  obtain ⟨n_4, j_5⟩ := u
  try dsimp only at hw
  have hP : va_P D vwCl (mcw y ad (sJ (sI (sI σ 115 n_2) 142 n_4) 143 j_5)) H := hP
  have hD : va_D A (mcw y ad (sJ (sI (sI σ 115 n_2) 142 n_4) 143 j_5)) := hD
  replace hw : True := hw
  refine lv_lload_n hx hb dX4_dropSign_23 rfl (lv_at hl 0 rfl) ?_
  refine x_calllN (va_runS (As := [.long r_3]) (rest := []) ⟨hx, hb, hml, hown, hts⟩ (k_above l D y H.size r_3) (va_cwS 1 hts g_mc_dropSign_3 rfl rfl rfl (by decide +kernel) ⟨Nat.le_of_ble_eq_true rfl, Nat.le_of_ble_eq_true rfl⟩) (x_preS hK (x_nilP D H) (x_nilD A)) rfl rfl hl.1 rfl (lv_room (Nat.le_of_ble_eq_true rfl)) dX4_dropSign_24 ⟨Nat.le_of_ble_eq_true rfl, Nat.le_of_ble_eq_true rfl⟩) hP hD hS hA (fun r_6 u H locs hw hP hD hS => ?_)
  try dsimp only at hw
  refine lv_lconst (v := 0) hx hb dX4_dropSign_27 (by decide) ?_
  refine W.lcmp hx hb dX4_dropSign_28 ?_
  refine lv_if_ge (tgt := 37) hx hb dX4_dropSign_29 (by decide) (fun c_7 => ?_) (fun c_7 => ?_)
  · have kc_7 : r_6.toInt ≥ 0 := by have h9 := x_tri r_6 (0 : Int64); (try simp only [Int64.reduceToInt] at h9); rcases h9 with ⟨g1, g2⟩ | ⟨g1, g2⟩ | ⟨g1, g2⟩ <;> first | omega | (exfalso; rw [g1] at c_7; revert c_7; decide)
    refine lv_bipush (v := 30) hx hb dX4_dropSign_37 (by decide) ?_
    refine lv_istore (lv' := [(4, .int 30), (2, .long r_3), (1, .int r_1), (0, .ref (ad 110))]) hx hb dX4_dropSign_39 hl (by decide) rfl (fun ls hl => ?_)
    refine lv_aload_n hx hb dX4_dropSign_41 rfl (lv_at hl 3 rfl) ?_
    refine lv_aload_n hx hb dX4_dropSign_42 rfl (lv_at hl 3 rfl) ?_
    refine va_get (D := D) (ci := 3) (v := .ref (ad 130)) (C := RX4) (T := TX4) (N := 6) hx hb hts inX4 hown hK hP 0 mcw_o0 rfl 3 (by decide) fl24 (fun _ h9 => h9) rfl dX4_dropSign_43 ?_
    refine lv_iload hx hb dX4_dropSign_46 (lv_at hl 0 rfl) ?_
    refine lv_iload_n hx hb dX4_dropSign_48 rfl (lv_at hl 2 rfl) ?_
    refine lv_iload_n hx hb dX4_dropSign_49 rfl (lv_at hl 2 rfl) ?_
    refine lv_lload_n hx hb dX4_dropSign_50 rfl (lv_at hl 1 rfl) ?_
    refine x_calllN (va_runS (As := [.long r_3]) (rest := [.int r_1, .int r_1, .int 30, .ref (ad 130), .ref (ad 110)]) ⟨hx, hb, hml, hown, hts⟩ (k_withoutSign l D y H.size r_3) (va_cwS 1 hts g_mc_dropSign_4 rfl rfl rfl (by decide +kernel) ⟨Nat.le_of_ble_eq_true rfl, Nat.le_of_ble_eq_true rfl⟩) (x_preS hK (x_nilP D H) (x_nilD A)) rfl rfl hl.1 rfl (lv_room (Nat.le_of_ble_eq_true rfl)) dX4_dropSign_51 ⟨Nat.le_of_ble_eq_true rfl, Nat.le_of_ble_eq_true rfl⟩) hP hD hS hA (fun r_8 u H locs hw hP hD hS => ?_)
    try dsimp only at hw
    have hPs : va_P D vwCl (tpw y ad (sJ (sI (sI σ 115 n_2) 142 n_4) 143 j_5)) H := x_suP hP [2, 11, 12, 13, 14, 15] rfl
    have hDs : va_D A (tpw y ad (sJ (sI (sI σ 115 n_2) 142 n_4) 143 j_5)) := x_suD hD [2, 11, 12, 13, 14, 15] rfl (by decide)
    refine x_calliS (b1 := fun (u : (Nat → Int32) × (Nat → Int32) × (Nat → Int32) × (Nat → Int64) × Int32 × Int32) => (mcw y ad (sI (sI (tJ (tI (tI (tI (sJ (sI (sI σ 115 n_2) 142 n_4) 143 j_5) 132 u.1) 133 u.2.1) 134 u.2.2.1) 131 u.2.2.2.1) 139 u.2.2.2.2.1) 140 u.2.2.2.2.2))) [2, 11, 12, 13, 14, 15] (va_runV (As := [.int 30, .int r_1, .int r_1, .long r_8]) (rest := [.ref (ad 110)]) ⟨hx, hb, hml, hown, hts⟩ (ka_lay l D y H.size ad (sJ (sI (sI σ 115 n_2) 142 n_4) 143 j_5) 30 r_1 r_1 r_8 (show 0 ≤ ((σ.1 139)).toInt from by first | omega | decide) (show ((σ.1 139)).toInt ≤ 1359 from by first | omega | decide) hB133 hB134) (cwV 4 hts g_mc_dropSign_5 rfl rfl rfl (by decide +kernel) ⟨Nat.le_of_ble_eq_true rfl, Nat.le_of_ble_eq_true rfl⟩) (x_preV (q := (RX8, TX8, 13)) hK hPs hDs (ci := 7) (q0 := 0) rfl tpw_o0) rfl rfl hl.1 rfl (lv_room (Nat.le_of_ble_eq_true rfl)) dX4_dropSign_54 ⟨Nat.le_of_ble_eq_true rfl, Nat.le_of_ble_eq_true rfl⟩) hP hD hS hA rfl (fun _ => rfl) (fun _ => rfl) (fun _ => rfl) (fun r_9 u H locs hw hP hD hS => ?_)
    obtain ⟨f_10, f_11, f_12, f_13, n_14, n_15⟩ := u
    try dsimp only at hw
    have hP : va_P D vwCl (mcw y ad (sI (sI (tJ (tI (tI (tI (sJ (sI (sI σ 115 n_2) 142 n_4) 143 j_5) 132 f_10) 133 f_11) 134 f_12) 131 f_13) 139 n_14) 140 n_15)) H := hP
    have hD : va_D A (mcw y ad (sI (sI (tJ (tI (tI (tI (sJ (sI (sI σ 115 n_2) 142 n_4) 143 j_5) 132 f_10) 133 f_11) 134 f_12) 131 f_13) 139 n_14) 140 n_15)) := hD
    replace hw : (0 ≤ n_14.toInt ∧ n_14.toInt ≤ 1359) ∧ bI f_11 0 1358 ∧ bI f_12 0 1358 := hw
    obtain ⟨hw, hg_16, hg_17⟩ := hw
    refine x_callvW (va_runV (As := [.int r_9]) (rest := []) ⟨hx, hb, hml, hown, hts⟩ (mc_push l D y H.size ad (sI (sI (tJ (tI (tI (tI (sJ (sI (sI σ 115 n_2) 142 n_4) 143 j_5) 132 f_10) 133 f_11) 134 f_12) 131 f_13) 139 n_14) 140 n_15) r_9 (show 0 ≤ (n_2).toInt from by first | omega | decide) (show (n_2).toInt ≤ 64 from by first | omega | decide)) (cwV 1 hts g_mc_dropSign_6 rfl rfl rfl (by decide +kernel) ⟨Nat.le_of_ble_eq_true rfl, Nat.le_of_ble_eq_true rfl⟩) (x_preV (q := (RX4, TX4, 6)) hK hP hD (ci := 3) (q0 := 0) rfl mcw_o0) rfl rfl hl.1 rfl (lv_room (Nat.le_of_ble_eq_true rfl)) dX4_dropSign_57 ⟨Nat.le_of_ble_eq_true rfl, Nat.le_of_ble_eq_true rfl⟩) hP hD hS hA (fun u H locs hw hP hD hS => ?_)
    obtain ⟨f_18, n_19⟩ := u
    try dsimp only at hw
    have hP : va_P D vwCl (mcw y ad (sI (tI (sI (sI (tJ (tI (tI (tI (sJ (sI (sI σ 115 n_2) 142 n_4) 143 j_5) 132 f_10) 133 f_11) 134 f_12) 131 f_13) 139 n_14) 140 n_15) 111 f_18) 115 n_19)) H := hP
    have hD : va_D A (mcw y ad (sI (tI (sI (sI (tJ (tI (tI (tI (sJ (sI (sI σ 115 n_2) 142 n_4) 143 j_5) 132 f_10) 133 f_11) 134 f_12) 131 f_13) 139 n_14) 140 n_15) 111 f_18) 115 n_19)) := hD
    replace hw : 0 ≤ n_19.toInt ∧ n_19.toInt ≤ 64 := hw
    have hP : va_P D vwCl (mcw y ad (sI (sJ (sI (sI (tI (sI (sI (tJ (tI (tI (tI (sI (sI (tI (tI σ 111 f_18) 112 (σ.2.2.1 112)) 115 n_19) 116 (σ.1 116)) 132 f_10) 133 f_11) 134 f_12) 131 f_13) 139 n_14) 140 n_15) 135 (σ.2.2.1 135)) 141 (σ.1 141)) 142 n_4) 143 j_5) 136 (σ.1 136))) H := hP
    have hD : va_D A (mcw y ad (sI (sJ (sI (sI (tI (sI (sI (tJ (tI (tI (tI (sI (sI (tI (tI σ 111 f_18) 112 (σ.2.2.1 112)) 115 n_19) 116 (σ.1 116)) 132 f_10) 133 f_11) 134 f_12) 131 f_13) 139 n_14) 140 n_15) 135 (σ.2.2.1 135)) 141 (σ.1 141)) 142 n_4) 143 j_5) 136 (σ.1 136))) := hD
    exact x_vretW (u := (f_18, (σ.2.2.1 112), n_19, (σ.1 116), f_10, f_11, f_12, f_13, n_14, n_15, (σ.2.2.1 135), (σ.1 141), n_4, j_5, (σ.1 136))) hx hb hr hQ (by (try dsimp only); exact ⟨⟨by omega, by omega, by omega, by omega, by omega, by omega⟩, hg_16, hg_17, hB135⟩) hP hD hK hS dX4_dropSign_60 hlocks
  · have kc_7 : r_6.toInt < 0 := by have h9 := x_tri r_6 (0 : Int64); (try simp only [Int64.reduceToInt] at h9); rcases h9 with ⟨g1, g2⟩ | ⟨g1, g2⟩ | ⟨g1, g2⟩ <;> first | omega | (exfalso; rw [g1] at c_7; revert c_7; decide)
    refine lv_bipush (v := 31) hx hb dX4_dropSign_32 (by decide) ?_
    refine lv_goto (tgt := 39) hx hb dX4_dropSign_34 (by decide) ?_
    refine lv_istore (lv' := [(4, .int 31), (2, .long r_3), (1, .int r_1), (0, .ref (ad 110))]) hx hb dX4_dropSign_39 hl (by decide) rfl (fun ls hl => ?_)
    refine lv_aload_n hx hb dX4_dropSign_41 rfl (lv_at hl 3 rfl) ?_
    refine lv_aload_n hx hb dX4_dropSign_42 rfl (lv_at hl 3 rfl) ?_
    refine va_get (D := D) (ci := 3) (v := .ref (ad 130)) (C := RX4) (T := TX4) (N := 6) hx hb hts inX4 hown hK hP 0 mcw_o0 rfl 3 (by decide) fl24 (fun _ h9 => h9) rfl dX4_dropSign_43 ?_
    refine lv_iload hx hb dX4_dropSign_46 (lv_at hl 0 rfl) ?_
    refine lv_iload_n hx hb dX4_dropSign_48 rfl (lv_at hl 2 rfl) ?_
    refine lv_iload_n hx hb dX4_dropSign_49 rfl (lv_at hl 2 rfl) ?_
    refine lv_lload_n hx hb dX4_dropSign_50 rfl (lv_at hl 1 rfl) ?_
    refine x_calllN (va_runS (As := [.long r_3]) (rest := [.int r_1, .int r_1, .int 31, .ref (ad 130), .ref (ad 110)]) ⟨hx, hb, hml, hown, hts⟩ (k_withoutSign l D y H.size r_3) (va_cwS 1 hts g_mc_dropSign_4 rfl rfl rfl (by decide +kernel) ⟨Nat.le_of_ble_eq_true rfl, Nat.le_of_ble_eq_true rfl⟩) (x_preS hK (x_nilP D H) (x_nilD A)) rfl rfl hl.1 rfl (lv_room (Nat.le_of_ble_eq_true rfl)) dX4_dropSign_51 ⟨Nat.le_of_ble_eq_true rfl, Nat.le_of_ble_eq_true rfl⟩) hP hD hS hA (fun r_20 u H locs hw hP hD hS => ?_)
    try dsimp only at hw
    have hPs : va_P D vwCl (tpw y ad (sJ (sI (sI σ 115 n_2) 142 n_4) 143 j_5)) H := x_suP hP [2, 11, 12, 13, 14, 15] rfl
    have hDs : va_D A (tpw y ad (sJ (sI (sI σ 115 n_2) 142 n_4) 143 j_5)) := x_suD hD [2, 11, 12, 13, 14, 15] rfl (by decide)
    refine x_calliS (b1 := fun (u : (Nat → Int32) × (Nat → Int32) × (Nat → Int32) × (Nat → Int64) × Int32 × Int32) => (mcw y ad (sI (sI (tJ (tI (tI (tI (sJ (sI (sI σ 115 n_2) 142 n_4) 143 j_5) 132 u.1) 133 u.2.1) 134 u.2.2.1) 131 u.2.2.2.1) 139 u.2.2.2.2.1) 140 u.2.2.2.2.2))) [2, 11, 12, 13, 14, 15] (va_runV (As := [.int 31, .int r_1, .int r_1, .long r_20]) (rest := [.ref (ad 110)]) ⟨hx, hb, hml, hown, hts⟩ (ka_lay l D y H.size ad (sJ (sI (sI σ 115 n_2) 142 n_4) 143 j_5) 31 r_1 r_1 r_20 (show 0 ≤ ((σ.1 139)).toInt from by first | omega | decide) (show ((σ.1 139)).toInt ≤ 1359 from by first | omega | decide) hB133 hB134) (cwV 4 hts g_mc_dropSign_5 rfl rfl rfl (by decide +kernel) ⟨Nat.le_of_ble_eq_true rfl, Nat.le_of_ble_eq_true rfl⟩) (x_preV (q := (RX8, TX8, 13)) hK hPs hDs (ci := 7) (q0 := 0) rfl tpw_o0) rfl rfl hl.1 rfl (lv_room (Nat.le_of_ble_eq_true rfl)) dX4_dropSign_54 ⟨Nat.le_of_ble_eq_true rfl, Nat.le_of_ble_eq_true rfl⟩) hP hD hS hA rfl (fun _ => rfl) (fun _ => rfl) (fun _ => rfl) (fun r_21 u H locs hw hP hD hS => ?_)
    obtain ⟨f_22, f_23, f_24, f_25, n_26, n_27⟩ := u
    try dsimp only at hw
    have hP : va_P D vwCl (mcw y ad (sI (sI (tJ (tI (tI (tI (sJ (sI (sI σ 115 n_2) 142 n_4) 143 j_5) 132 f_22) 133 f_23) 134 f_24) 131 f_25) 139 n_26) 140 n_27)) H := hP
    have hD : va_D A (mcw y ad (sI (sI (tJ (tI (tI (tI (sJ (sI (sI σ 115 n_2) 142 n_4) 143 j_5) 132 f_22) 133 f_23) 134 f_24) 131 f_25) 139 n_26) 140 n_27)) := hD
    replace hw : (0 ≤ n_26.toInt ∧ n_26.toInt ≤ 1359) ∧ bI f_23 0 1358 ∧ bI f_24 0 1358 := hw
    obtain ⟨hw, hg_28, hg_29⟩ := hw
    refine x_callvW (va_runV (As := [.int r_21]) (rest := []) ⟨hx, hb, hml, hown, hts⟩ (mc_push l D y H.size ad (sI (sI (tJ (tI (tI (tI (sJ (sI (sI σ 115 n_2) 142 n_4) 143 j_5) 132 f_22) 133 f_23) 134 f_24) 131 f_25) 139 n_26) 140 n_27) r_21 (show 0 ≤ (n_2).toInt from by first | omega | decide) (show (n_2).toInt ≤ 64 from by first | omega | decide)) (cwV 1 hts g_mc_dropSign_6 rfl rfl rfl (by decide +kernel) ⟨Nat.le_of_ble_eq_true rfl, Nat.le_of_ble_eq_true rfl⟩) (x_preV (q := (RX4, TX4, 6)) hK hP hD (ci := 3) (q0 := 0) rfl mcw_o0) rfl rfl hl.1 rfl (lv_room (Nat.le_of_ble_eq_true rfl)) dX4_dropSign_57 ⟨Nat.le_of_ble_eq_true rfl, Nat.le_of_ble_eq_true rfl⟩) hP hD hS hA (fun u H locs hw hP hD hS => ?_)
    obtain ⟨f_30, n_31⟩ := u
    try dsimp only at hw
    have hP : va_P D vwCl (mcw y ad (sI (tI (sI (sI (tJ (tI (tI (tI (sJ (sI (sI σ 115 n_2) 142 n_4) 143 j_5) 132 f_22) 133 f_23) 134 f_24) 131 f_25) 139 n_26) 140 n_27) 111 f_30) 115 n_31)) H := hP
    have hD : va_D A (mcw y ad (sI (tI (sI (sI (tJ (tI (tI (tI (sJ (sI (sI σ 115 n_2) 142 n_4) 143 j_5) 132 f_22) 133 f_23) 134 f_24) 131 f_25) 139 n_26) 140 n_27) 111 f_30) 115 n_31)) := hD
    replace hw : 0 ≤ n_31.toInt ∧ n_31.toInt ≤ 64 := hw
    have hP : va_P D vwCl (mcw y ad (sI (sJ (sI (sI (tI (sI (sI (tJ (tI (tI (tI (sI (sI (tI (tI σ 111 f_30) 112 (σ.2.2.1 112)) 115 n_31) 116 (σ.1 116)) 132 f_22) 133 f_23) 134 f_24) 131 f_25) 139 n_26) 140 n_27) 135 (σ.2.2.1 135)) 141 (σ.1 141)) 142 n_4) 143 j_5) 136 (σ.1 136))) H := hP
    have hD : va_D A (mcw y ad (sI (sJ (sI (sI (tI (sI (sI (tJ (tI (tI (tI (sI (sI (tI (tI σ 111 f_30) 112 (σ.2.2.1 112)) 115 n_31) 116 (σ.1 116)) 132 f_22) 133 f_23) 134 f_24) 131 f_25) 139 n_26) 140 n_27) 135 (σ.2.2.1 135)) 141 (σ.1 141)) 142 n_4) 143 j_5) 136 (σ.1 136))) := hD
    exact x_vretW (u := (f_30, (σ.2.2.1 112), n_31, (σ.1 116), f_22, f_23, f_24, f_25, n_26, n_27, (σ.2.2.1 135), (σ.1 141), n_4, j_5, (σ.1 136))) hx hb hr hQ (by (try dsimp only); exact ⟨⟨by omega, by omega, by omega, by omega, by omega, by omega⟩, hg_28, hg_29, hB135⟩) hP hD hK hS dX4_dropSign_60 hlocks

def v_mc_choose : List Cond := .code yX4_choose cX4_choose 11 none :: ([.fieldLink RX4 24 "SlopeRunner$Machine" "tape" "LSlopeRunner$Tape;"] ++ ((wsV RX4 81 RX4 yX4_pop v_mc_pop) ++ ((wsV RX4 88 RX8 yX8_valueAt v_ka_valueAt) ++ ((wsV RX4 143 RX8 yX8_meet v_ka_meet) ++ ((va_wsS RX4 150 yX0_compare v_k_compare) ++ ((wsV RX4 126 RX8 yX8_lay v_ka_lay) ++ ((wsV RX4 69 RX4 yX4_push v_mc_push) ++ wsX40)))))))
theorem g_mc_choose_0 : GoodIn v_mc_choose (wsV RX4 81 RX4 yX4_pop v_mc_pop) := goodIn_sub (fun w h => List.mem_cons_of_mem _ (List.mem_append_right _ (List.mem_append_left _ h))) (by decide +kernel)
theorem g_mc_choose_1 : GoodIn v_mc_choose (wsV RX4 88 RX8 yX8_valueAt v_ka_valueAt) := goodIn_sub (fun w h => List.mem_cons_of_mem _ (List.mem_append_right _ (List.mem_append_right _ (List.mem_append_left _ h)))) (by decide +kernel)
theorem g_mc_choose_2 : GoodIn v_mc_choose (wsV RX4 143 RX8 yX8_meet v_ka_meet) := goodIn_sub (fun w h => List.mem_cons_of_mem _ (List.mem_append_right _ (List.mem_append_right _ (List.mem_append_right _ (List.mem_append_left _ h))))) (by decide +kernel)
theorem g_mc_choose_3 : GoodIn v_mc_choose (va_wsS RX4 150 yX0_compare v_k_compare) := goodIn_sub (fun w h => List.mem_cons_of_mem _ (List.mem_append_right _ (List.mem_append_right _ (List.mem_append_right _ (List.mem_append_right _ (List.mem_append_left _ h)))))) (by decide +kernel)
theorem g_mc_choose_4 : GoodIn v_mc_choose (wsV RX4 126 RX8 yX8_lay v_ka_lay) := goodIn_sub (fun w h => List.mem_cons_of_mem _ (List.mem_append_right _ (List.mem_append_right _ (List.mem_append_right _ (List.mem_append_right _ (List.mem_append_right _ (List.mem_append_left _ h))))))) (by decide +kernel)
theorem g_mc_choose_5 : GoodIn v_mc_choose (wsV RX4 69 RX4 yX4_push v_mc_push) := goodIn_sub (fun w h => List.mem_cons_of_mem _ (List.mem_append_right _ (List.mem_append_right _ (List.mem_append_right _ (List.mem_append_right _ (List.mem_append_right _ (List.mem_append_right _ (List.mem_append_left _ h)))))))) (by decide +kernel)
set_option maxHeartbeats 4000000 in
set_option maxRecDepth 100000 in
theorem mc_choose (l : Launch) (D : va_G) (y : Nat → ClassId) (sz : Nat) (ad : Nat → Nat) (σ : OS) (x : Int32) (htop0 : 0 ≤ (σ.1 115).toInt) (htop1 : (σ.1 115).toInt ≤ 64) (hsize0 : 0 ≤ (σ.1 139).toInt) (hsize1 : (σ.1 139).toInt ≤ 1359) (hresults0 : 0 ≤ (σ.1 141).toInt) (hresults1 : (σ.1 141).toInt ≤ 12) (hinputs0 : 0 ≤ (σ.1 137).toInt) (hinputs1 : (σ.1 137).toInt ≤ 8) (hplength0 : 0 ≤ (σ.1 86).toInt) (hplength1 : (σ.1 86).toInt ≤ 700) (hprows0 : 0 ≤ (σ.1 82).toInt) (hprows1 : (σ.1 82).toInt ≤ 4)  (hB133 : bI (σ.2.2.1 133) 0 1358) (hB134 : bI (σ.2.2.1 134) 0 1358) (hB135 : bI (σ.2.2.1 135) 0 1358) : Met l yX4_choose v_mc_choose ({ frames := 4, cells := 0, slots := 0, locals := 118 } : Room) (va_Pc [.ref (ad 110), .int x] (xPre D (xT y) (mcw y ad σ) sz)) (va_Qv (fun (u : (Nat → Int32) × (Nat → Int32) × Int32 × Int32 × (Nat → Int32) × (Nat → Int32) × (Nat → Int32) × (Nat → Int64) × Int32 × Int32 × (Nat → Int32) × Int32 × Int32 × Int64 × Int32) => (0 ≤ u.2.2.1.toInt ∧ u.2.2.1.toInt ≤ 64 ∧ 0 ≤ u.2.2.2.2.2.2.2.2.1.toInt ∧ u.2.2.2.2.2.2.2.2.1.toInt ≤ 1359 ∧ 0 ≤ u.2.2.2.2.2.2.2.2.2.2.2.1.toInt ∧ u.2.2.2.2.2.2.2.2.2.2.2.1.toInt ≤ 12) ∧ bI u.2.2.2.2.2.1 0 1358 ∧ bI u.2.2.2.2.2.2.1 0 1358 ∧ bI u.2.2.2.2.2.2.2.2.2.2.1 0 1358) (fun (u : (Nat → Int32) × (Nat → Int32) × Int32 × Int32 × (Nat → Int32) × (Nat → Int32) × (Nat → Int32) × (Nat → Int64) × Int32 × Int32 × (Nat → Int32) × Int32 × Int32 × Int64 × Int32) => xB D (xT y) (va_A (mcw y ad σ) sz) (mcw y ad (sI (sJ (sI (sI (tI (sI (sI (tJ (tI (tI (tI (sI (sI (tI (tI σ 111 u.1) 112 u.2.1) 115 u.2.2.1) 116 u.2.2.2.1) 132 u.2.2.2.2.1) 133 u.2.2.2.2.2.1) 134 u.2.2.2.2.2.2.1) 131 u.2.2.2.2.2.2.2.1) 139 u.2.2.2.2.2.2.2.2.1) 140 u.2.2.2.2.2.2.2.2.2.1) 135 u.2.2.2.2.2.2.2.2.2.2.1) 141 u.2.2.2.2.2.2.2.2.2.2.2.1) 142 u.2.2.2.2.2.2.2.2.2.2.2.2.1) 143 u.2.2.2.2.2.2.2.2.2.2.2.2.2.1) 136 u.2.2.2.2.2.2.2.2.2.2.2.2.2.2))) (va_A (mcw y ad σ) sz)) 0 0 (va_A (mcw y ad σ) sz) := by
  refine x_metv (cc := cX4_choose) (maxL := 11) (by decide) rfl (Nat.le_of_ble_eq_true rfl) ?_
  intro p e s m below meth c A H locs Q hx hb hml hown hts hr hlocks hmn hA hP hK hD hS ls hl hQ
  have hl : lv_has ls 11 [(0, .ref (ad 110)), (1, .int x)] := hl
  have fl24 := hts (.fieldLink RX4 24 "SlopeRunner$Machine" "tape" "LSlopeRunner$Tape;") (List.mem_of_getElem? (i := 1) rfl)
  have inX4 : ∀ w ∈ wsX40, w ∈ v_mc_choose := (fun w h => List.mem_cons_of_mem _ (List.mem_append_right _ (List.mem_append_right _ (List.mem_append_right _ (List.mem_append_right _ (List.mem_append_right _ (List.mem_append_right _ (List.mem_append_right _ h))))))))
  have kk_11 : (11 : Int32).toInt = 11 := rfl
  have kk_0 : (0 : Int32).toInt = 0 := rfl
  have kk_30 : (30 : Int32).toInt = 30 := rfl
  refine lv_aload_n hx hb dX4_choose_0 rfl (lv_at hl 0 rfl) ?_
  refine x_calliW (va_runV (As := []) (rest := []) ⟨hx, hb, hml, hown, hts⟩ (mc_pop l D y H.size ad σ (show 0 ≤ ((σ.1 115)).toInt from by first | omega | decide) (show ((σ.1 115)).toInt ≤ 64 from by first | omega | decide)) (cwV 0 hts g_mc_choose_0 rfl rfl rfl (by decide +kernel) ⟨Nat.le_of_ble_eq_true rfl, Nat.le_of_ble_eq_true rfl⟩) (x_preV (q := (RX4, TX4, 6)) hK hP hD (ci := 3) (q0 := 0) rfl mcw_o0) rfl rfl hl.1 rfl (lv_room (Nat.le_of_ble_eq_true rfl)) dX4_choose_1 ⟨Nat.le_of_ble_eq_true rfl, Nat.le_of_ble_eq_true rfl⟩) hP hD hS hA (fun r_1 u H locs hw hP hD hS => ?_)
  obtain ⟨n_2, rfl⟩ : ∃ z9, z9 = u := ⟨_, rfl⟩
  try dsimp only at hw
  have hP : va_P D vwCl (mcw y ad (sI σ 115 n_2)) H := hP
  have hD : va_D A (mcw y ad (sI σ 115 n_2)) := hD
  replace hw : 0 ≤ n_2.toInt ∧ n_2.toInt ≤ 64 := hw
  refine lv_istore_n (lv' := [(2, .int r_1), (0, .ref (ad 110)), (1, .int x)]) hx hb dX4_choose_4 rfl hl (by decide) rfl (fun ls hl => ?_)
  refine lv_aload_n hx hb dX4_choose_5 rfl (lv_at hl 1 rfl) ?_
  refine x_calliW (va_runV (As := []) (rest := []) ⟨hx, hb, hml, hown, hts⟩ (mc_pop l D y H.size ad (sI σ 115 n_2) (show 0 ≤ (n_2).toInt from by first | omega | decide) (show (n_2).toInt ≤ 64 from by first | omega | decide)) (cwV 0 hts g_mc_choose_0 rfl rfl rfl (by decide +kernel) ⟨Nat.le_of_ble_eq_true rfl, Nat.le_of_ble_eq_true rfl⟩) (x_preV (q := (RX4, TX4, 6)) hK hP hD (ci := 3) (q0 := 0) rfl mcw_o0) rfl rfl hl.1 rfl (lv_room (Nat.le_of_ble_eq_true rfl)) dX4_choose_6 ⟨Nat.le_of_ble_eq_true rfl, Nat.le_of_ble_eq_true rfl⟩) hP hD hS hA (fun r_3 u H locs hw hP hD hS => ?_)
  obtain ⟨n_4, rfl⟩ : ∃ z9, z9 = u := ⟨_, rfl⟩
  try dsimp only at hw
  have hP : va_P D vwCl (mcw y ad (sI (sI σ 115 n_2) 115 n_4)) H := hP
  have hD : va_D A (mcw y ad (sI (sI σ 115 n_2) 115 n_4)) := hD
  replace hw : 0 ≤ n_4.toInt ∧ n_4.toInt ≤ 64 := hw
  refine lv_istore_n (lv' := [(3, .int r_3), (2, .int r_1), (0, .ref (ad 110)), (1, .int x)]) hx hb dX4_choose_9 rfl hl (by decide) rfl (fun ls hl => ?_)
  refine lv_aload_n hx hb dX4_choose_10 rfl (lv_at hl 2 rfl) ?_
  refine va_get (D := D) (ci := 3) (v := .ref (ad 130)) (C := RX4) (T := TX4) (N := 6) hx hb hts inX4 hown hK hP 0 mcw_o0 rfl 3 (by decide) fl24 (fun _ h9 => h9) rfl dX4_choose_11 ?_
  refine lv_iload_n hx hb dX4_choose_14 rfl (lv_at hl 0 rfl) ?_
  have hPs : va_P D vwCl (tpw y ad (sI (sI σ 115 n_2) 115 n_4)) H := x_suP hP [2, 11, 12, 13, 14, 15] rfl
  have hDs : va_D A (tpw y ad (sI (sI σ 115 n_2) 115 n_4)) := x_suD hD [2, 11, 12, 13, 14, 15] rfl (by decide)
  refine x_calllS (b1 := fun (u : Unit) => (mcw y ad (sI (sI σ 115 n_2) 115 n_4))) [2, 11, 12, 13, 14, 15] (va_runV (As := [.int r_3]) (rest := []) ⟨hx, hb, hml, hown, hts⟩ (ka_valueAt l D y H.size ad (sI (sI σ 115 n_2) 115 n_4) r_3 (show 0 ≤ ((σ.1 139)).toInt from by first | omega | decide) (show ((σ.1 139)).toInt ≤ 1359 from by first | omega | decide)) (cwV 1 hts g_mc_choose_1 rfl rfl rfl (by decide +kernel) ⟨Nat.le_of_ble_eq_true rfl, Nat.le_of_ble_eq_true rfl⟩) (x_preV (q := (RX8, TX8, 13)) hK hPs hDs (ci := 7) (q0 := 0) rfl tpw_o0) rfl rfl hl.1 rfl (lv_room (Nat.le_of_ble_eq_true rfl)) dX4_choose_15 ⟨Nat.le_of_ble_eq_true rfl, Nat.le_of_ble_eq_true rfl⟩) hP hD hS hA rfl (fun _ => rfl) (fun _ => rfl) (fun _ => rfl) (fun r_5 u H locs hw hP hD hS => ?_)
  try dsimp only at hw
  have hP : va_P D vwCl (mcw y ad (sI (sI σ 115 n_2) 115 n_4)) H := hP
  have hD : va_D A (mcw y ad (sI (sI σ 115 n_2) 115 n_4)) := hD
  refine lv_lstore (lv' := [(4, .long r_5), (3, .int r_3), (2, .int r_1), (0, .ref (ad 110)), (1, .int x)]) hx hb dX4_choose_18 hl (by decide) rfl (fun ls hl => ?_)
  refine lv_aload_n hx hb dX4_choose_20 rfl (lv_at hl 3 rfl) ?_
  refine va_get (D := D) (ci := 3) (v := .ref (ad 130)) (C := RX4) (T := TX4) (N := 6) hx hb hts inX4 hown hK hP 0 mcw_o0 rfl 3 (by decide) fl24 (fun _ h9 => h9) rfl dX4_choose_21 ?_
  refine lv_iload_n hx hb dX4_choose_24 rfl (lv_at hl 2 rfl) ?_
  have hPs : va_P D vwCl (tpw y ad (sI (sI σ 115 n_2) 115 n_4)) H := x_suP hP [2, 11, 12, 13, 14, 15] rfl
  have hDs : va_D A (tpw y ad (sI (sI σ 115 n_2) 115 n_4)) := x_suD hD [2, 11, 12, 13, 14, 15] rfl (by decide)
  refine x_calllS (b1 := fun (u : Unit) => (mcw y ad (sI (sI σ 115 n_2) 115 n_4))) [2, 11, 12, 13, 14, 15] (va_runV (As := [.int r_1]) (rest := []) ⟨hx, hb, hml, hown, hts⟩ (ka_valueAt l D y H.size ad (sI (sI σ 115 n_2) 115 n_4) r_1 (show 0 ≤ ((σ.1 139)).toInt from by first | omega | decide) (show ((σ.1 139)).toInt ≤ 1359 from by first | omega | decide)) (cwV 1 hts g_mc_choose_1 rfl rfl rfl (by decide +kernel) ⟨Nat.le_of_ble_eq_true rfl, Nat.le_of_ble_eq_true rfl⟩) (x_preV (q := (RX8, TX8, 13)) hK hPs hDs (ci := 7) (q0 := 0) rfl tpw_o0) rfl rfl hl.1 rfl (lv_room (Nat.le_of_ble_eq_true rfl)) dX4_choose_25 ⟨Nat.le_of_ble_eq_true rfl, Nat.le_of_ble_eq_true rfl⟩) hP hD hS hA rfl (fun _ => rfl) (fun _ => rfl) (fun _ => rfl) (fun r_6 u H locs hw hP hD hS => ?_)
  try dsimp only at hw
  have hP : va_P D vwCl (mcw y ad (sI (sI σ 115 n_2) 115 n_4)) H := hP
  have hD : va_D A (mcw y ad (sI (sI σ 115 n_2) 115 n_4)) := hD
  refine lv_lstore (lv' := [(6, .long r_6), (4, .long r_5), (3, .int r_3), (2, .int r_1), (0, .ref (ad 110)), (1, .int x)]) hx hb dX4_choose_28 hl (by decide) rfl (fun ls hl => ?_)
  refine lv_aload_n hx hb dX4_choose_30 rfl (lv_at hl 4 rfl) ?_
  refine va_get (D := D) (ci := 3) (v := .ref (ad 130)) (C := RX4) (T := TX4) (N := 6) hx hb hts inX4 hown hK hP 0 mcw_o0 rfl 3 (by decide) fl24 (fun _ h9 => h9) rfl dX4_choose_31 ?_
  refine lv_lload hx hb dX4_choose_34 (lv_at hl 1 rfl) ?_
  refine lv_lload hx hb dX4_choose_36 (lv_at hl 0 rfl) ?_
  have hPs : va_P D vwCl (tpw y ad (sI (sI σ 115 n_2) 115 n_4)) H := x_suP hP [2, 11, 12, 13, 14, 15] rfl
  have hDs : va_D A (tpw y ad (sI (sI σ 115 n_2) 115 n_4)) := x_suD hD [2, 11, 12, 13, 14, 15] rfl (by decide)
  refine x_callvS (b1 := fun (u : Int32 × Int64) => (mcw y ad (sJ (sI (sI (sI σ 115 n_2) 115 n_4) 142 u.1) 143 u.2))) [2, 11, 12, 13, 14, 15] (va_runV (As := [.long r_5, .long r_6]) (rest := []) ⟨hx, hb, hml, hown, hts⟩ (ka_meet l D y H.size ad (sI (sI σ 115 n_2) 115 n_4) r_5 r_6) (cwV 2 hts g_mc_choose_2 rfl rfl rfl (by decide +kernel) ⟨Nat.le_of_ble_eq_true rfl, Nat.le_of_ble_eq_true rfl⟩) (x_preV (q := (RX8, TX8, 13)) hK hPs hDs (ci := 7) (q0 := 0) rfl tpw_o0) rfl rfl hl.1 rfl (lv_room (Nat.le_of_ble_eq_true rfl)) dX4_choose_38 ⟨Nat.le_of_ble_eq_true rfl, Nat.le_of_ble_eq_true rfl⟩) hP hD hS hA rfl (fun _ => rfl) (fun _ => rfl) (fun _ => rfl) (fun u H locs hw hP hD hS => ?_)
  obtain ⟨n_7, j_8⟩ := u
  try dsimp only at hw
  have hP : va_P D vwCl (mcw y ad (sJ (sI (sI (sI σ 115 n_2) 115 n_4) 142 n_7) 143 j_8)) H := hP
  have hD : va_D A (mcw y ad (sJ (sI (sI (sI σ 115 n_2) 115 n_4) 142 n_7) 143 j_8)) := hD
  replace hw : True := hw
  refine lv_lload hx hb dX4_choose_41 (lv_at hl 1 rfl) ?_
  refine lv_lload hx hb dX4_choose_43 (lv_at hl 0 rfl) ?_
  refine x_calliN (va_runS (As := [.long r_5, .long r_6]) (rest := []) ⟨hx, hb, hml, hown, hts⟩ (k_compare l D y H.size r_5 r_6) (va_cwS 2 hts g_mc_choose_3 rfl rfl rfl (by decide +kernel) ⟨Nat.le_of_ble_eq_true rfl, Nat.le_of_ble_eq_true rfl⟩) (x_preS hK (x_nilP D H) (x_nilD A)) rfl rfl hl.1 rfl (lv_room (Nat.le_of_ble_eq_true rfl)) dX4_choose_45 ⟨Nat.le_of_ble_eq_true rfl, Nat.le_of_ble_eq_true rfl⟩) hP hD hS hA (fun r_9 u H locs hw hP hD hS => ?_)
  try dsimp only at hw
  refine lv_istore (lv' := [(8, .int r_9), (6, .long r_6), (4, .long r_5), (3, .int r_3), (2, .int r_1), (0, .ref (ad 110)), (1, .int x)]) hx hb dX4_choose_48 hl (by decide) rfl (fun ls hl => ?_)
  refine lv_iload_n hx hb dX4_choose_50 rfl (lv_at hl 6 rfl) ?_
  refine lv_bipush (v := 11) hx hb dX4_choose_51 (by decide) ?_
  refine lv_icmp_ne (tgt := 69) hx hb dX4_choose_53 (by decide) (fun c_10 => ?_) (fun c_10 => ?_)
  · have kc_10 : x.toInt ≠ 11 := by have h9 := c_10; simp only [ge_iff_le, gt_iff_lt, x_lt, x_le, x_eq, ne_eq, Int32.not_lt, Int32.not_le] at h9; simp only [Int32.reduceToInt] at h9; omega
    refine lv_iload hx hb dX4_choose_69 (lv_at hl 0 rfl) ?_
    refine lv_if_ge (tgt := 78) hx hb dX4_choose_71 (by decide) (fun c_11 => ?_) (fun c_11 => ?_)
    · have kc_11 : r_9.toInt ≥ 0 := by have h9 := c_11; simp only [ge_iff_le, gt_iff_lt, x_lt, x_le, x_eq, ne_eq, Int32.not_lt, Int32.not_le] at h9; simp only [Int32.reduceToInt] at h9; omega
      refine lv_iconst (v := 0) hx hb dX4_choose_78 (by decide) ?_
      refine lv_istore (lv' := [(9, .int 0), (8, .int r_9), (6, .long r_6), (4, .long r_5), (3, .int r_3), (2, .int r_1), (0, .ref (ad 110)), (1, .int x)]) hx hb dX4_choose_79 hl (by decide) rfl (fun ls hl => ?_)
      refine lv_iload hx hb dX4_choose_81 (lv_at hl 0 rfl) ?_
      refine lv_if_eq (tgt := 90) hx hb dX4_choose_83 (by decide) (fun c_12 => ?_) (fun c_12 => ?_)
      · refine lv_iload_n hx hb dX4_choose_90 rfl (lv_at hl 4 rfl) ?_
        refine lv_istore (lv' := [(10, .int r_3), (9, .int 0), (8, .int r_9), (6, .long r_6), (4, .long r_5), (3, .int r_3), (2, .int r_1), (0, .ref (ad 110)), (1, .int x)]) hx hb dX4_choose_91 hl (by decide) rfl (fun ls hl => ?_)
        refine lv_aload_n hx hb dX4_choose_93 rfl (lv_at hl 7 rfl) ?_
        refine lv_aload_n hx hb dX4_choose_94 rfl (lv_at hl 7 rfl) ?_
        refine va_get (D := D) (ci := 3) (v := .ref (ad 130)) (C := RX4) (T := TX4) (N := 6) hx hb hts inX4 hown hK hP 0 mcw_o0 rfl 3 (by decide) fl24 (fun _ h9 => h9) rfl dX4_choose_95 ?_
        refine lv_bipush (v := 30) hx hb dX4_choose_98 (by decide) ?_
        refine lv_iload hx hb dX4_choose_100 (lv_at hl 0 rfl) ?_
        refine lv_iload hx hb dX4_choose_102 (lv_at hl 0 rfl) ?_
        refine lv_iload hx hb dX4_choose_104 (lv_at hl 1 rfl) ?_
        refine lv_if_eq (tgt := 114) hx hb dX4_choose_106 (by decide) (fun c_13 => ?_) (fun c_13 => ?_)
        · refine lv_lload hx hb dX4_choose_114 (lv_at hl 4 rfl) ?_
          have hPs : va_P D vwCl (tpw y ad (sJ (sI (sI (sI σ 115 n_2) 115 n_4) 142 n_7) 143 j_8)) H := x_suP hP [2, 11, 12, 13, 14, 15] rfl
          have hDs : va_D A (tpw y ad (sJ (sI (sI (sI σ 115 n_2) 115 n_4) 142 n_7) 143 j_8)) := x_suD hD [2, 11, 12, 13, 14, 15] rfl (by decide)
          refine x_calliS (b1 := fun (u : (Nat → Int32) × (Nat → Int32) × (Nat → Int32) × (Nat → Int64) × Int32 × Int32) => (mcw y ad (sI (sI (tJ (tI (tI (tI (sJ (sI (sI (sI σ 115 n_2) 115 n_4) 142 n_7) 143 j_8) 132 u.1) 133 u.2.1) 134 u.2.2.1) 131 u.2.2.2.1) 139 u.2.2.2.2.1) 140 u.2.2.2.2.2))) [2, 11, 12, 13, 14, 15] (va_runV (As := [.int 30, .int r_3, .int r_3, .long r_5]) (rest := [.ref (ad 110)]) ⟨hx, hb, hml, hown, hts⟩ (ka_lay l D y H.size ad (sJ (sI (sI (sI σ 115 n_2) 115 n_4) 142 n_7) 143 j_8) 30 r_3 r_3 r_5 (show 0 ≤ ((σ.1 139)).toInt from by first | omega | decide) (show ((σ.1 139)).toInt ≤ 1359 from by first | omega | decide) hB133 hB134) (cwV 4 hts g_mc_choose_4 rfl rfl rfl (by decide +kernel) ⟨Nat.le_of_ble_eq_true rfl, Nat.le_of_ble_eq_true rfl⟩) (x_preV (q := (RX8, TX8, 13)) hK hPs hDs (ci := 7) (q0 := 0) rfl tpw_o0) rfl rfl hl.1 rfl (lv_room (Nat.le_of_ble_eq_true rfl)) dX4_choose_116 ⟨Nat.le_of_ble_eq_true rfl, Nat.le_of_ble_eq_true rfl⟩) hP hD hS hA rfl (fun _ => rfl) (fun _ => rfl) (fun _ => rfl) (fun r_14 u H locs hw hP hD hS => ?_)
          obtain ⟨f_15, f_16, f_17, f_18, n_19, n_20⟩ := u
          try dsimp only at hw
          have hP : va_P D vwCl (mcw y ad (sI (sI (tJ (tI (tI (tI (sJ (sI (sI (sI σ 115 n_2) 115 n_4) 142 n_7) 143 j_8) 132 f_15) 133 f_16) 134 f_17) 131 f_18) 139 n_19) 140 n_20)) H := hP
          have hD : va_D A (mcw y ad (sI (sI (tJ (tI (tI (tI (sJ (sI (sI (sI σ 115 n_2) 115 n_4) 142 n_7) 143 j_8) 132 f_15) 133 f_16) 134 f_17) 131 f_18) 139 n_19) 140 n_20)) := hD
          replace hw : (0 ≤ n_19.toInt ∧ n_19.toInt ≤ 1359) ∧ bI f_16 0 1358 ∧ bI f_17 0 1358 := hw
          obtain ⟨hw, hg_21, hg_22⟩ := hw
          refine x_callvW (va_runV (As := [.int r_14]) (rest := []) ⟨hx, hb, hml, hown, hts⟩ (mc_push l D y H.size ad (sI (sI (tJ (tI (tI (tI (sJ (sI (sI (sI σ 115 n_2) 115 n_4) 142 n_7) 143 j_8) 132 f_15) 133 f_16) 134 f_17) 131 f_18) 139 n_19) 140 n_20) r_14 (show 0 ≤ (n_4).toInt from by first | omega | decide) (show (n_4).toInt ≤ 64 from by first | omega | decide)) (cwV 1 hts g_mc_choose_5 rfl rfl rfl (by decide +kernel) ⟨Nat.le_of_ble_eq_true rfl, Nat.le_of_ble_eq_true rfl⟩) (x_preV (q := (RX4, TX4, 6)) hK hP hD (ci := 3) (q0 := 0) rfl mcw_o0) rfl rfl hl.1 rfl (lv_room (Nat.le_of_ble_eq_true rfl)) dX4_choose_119 ⟨Nat.le_of_ble_eq_true rfl, Nat.le_of_ble_eq_true rfl⟩) hP hD hS hA (fun u H locs hw hP hD hS => ?_)
          obtain ⟨f_23, n_24⟩ := u
          try dsimp only at hw
          have hP : va_P D vwCl (mcw y ad (sI (tI (sI (sI (tJ (tI (tI (tI (sJ (sI (sI (sI σ 115 n_2) 115 n_4) 142 n_7) 143 j_8) 132 f_15) 133 f_16) 134 f_17) 131 f_18) 139 n_19) 140 n_20) 111 f_23) 115 n_24)) H := hP
          have hD : va_D A (mcw y ad (sI (tI (sI (sI (tJ (tI (tI (tI (sJ (sI (sI (sI σ 115 n_2) 115 n_4) 142 n_7) 143 j_8) 132 f_15) 133 f_16) 134 f_17) 131 f_18) 139 n_19) 140 n_20) 111 f_23) 115 n_24)) := hD
          replace hw : 0 ≤ n_24.toInt ∧ n_24.toInt ≤ 64 := hw
          have hP : va_P D vwCl (mcw y ad (sI (sJ (sI (sI (tI (sI (sI (tJ (tI (tI (tI (sI (sI (tI (tI σ 111 f_23) 112 (σ.2.2.1 112)) 115 n_24) 116 (σ.1 116)) 132 f_15) 133 f_16) 134 f_17) 131 f_18) 139 n_19) 140 n_20) 135 (σ.2.2.1 135)) 141 (σ.1 141)) 142 n_7) 143 j_8) 136 (σ.1 136))) H := hP
          have hD : va_D A (mcw y ad (sI (sJ (sI (sI (tI (sI (sI (tJ (tI (tI (tI (sI (sI (tI (tI σ 111 f_23) 112 (σ.2.2.1 112)) 115 n_24) 116 (σ.1 116)) 132 f_15) 133 f_16) 134 f_17) 131 f_18) 139 n_19) 140 n_20) 135 (σ.2.2.1 135)) 141 (σ.1 141)) 142 n_7) 143 j_8) 136 (σ.1 136))) := hD
          exact x_vretW (u := (f_23, (σ.2.2.1 112), n_24, (σ.1 116), f_15, f_16, f_17, f_18, n_19, n_20, (σ.2.2.1 135), (σ.1 141), n_7, j_8, (σ.1 136))) hx hb hr hQ (by (try dsimp only); exact ⟨⟨by omega, by omega, by omega, by omega, by omega, by omega⟩, hg_21, hg_22, hB135⟩) hP hD hK hS dX4_choose_122 hlocks
        · exact absurd (by decide) c_13
      · exact absurd (by decide) c_12
    · have kc_11 : r_9.toInt < 0 := by have h9 := c_11; simp only [ge_iff_le, gt_iff_lt, x_lt, x_le, x_eq, ne_eq, Int32.not_lt, Int32.not_le] at h9; simp only [Int32.reduceToInt] at h9; omega
      refine lv_iconst (v := 1) hx hb dX4_choose_74 (by decide) ?_
      refine lv_goto (tgt := 79) hx hb dX4_choose_75 (by decide) ?_
      refine lv_istore (lv' := [(9, .int 1), (8, .int r_9), (6, .long r_6), (4, .long r_5), (3, .int r_3), (2, .int r_1), (0, .ref (ad 110)), (1, .int x)]) hx hb dX4_choose_79 hl (by decide) rfl (fun ls hl => ?_)
      refine lv_iload hx hb dX4_choose_81 (lv_at hl 0 rfl) ?_
      refine lv_if_eq (tgt := 90) hx hb dX4_choose_83 (by decide) (fun c_25 => ?_) (fun c_25 => ?_)
      · exact absurd c_25 (by decide)
      · refine lv_iload_n hx hb dX4_choose_86 rfl (lv_at hl 5 rfl) ?_
        refine lv_goto (tgt := 91) hx hb dX4_choose_87 (by decide) ?_
        refine lv_istore (lv' := [(10, .int r_1), (9, .int 1), (8, .int r_9), (6, .long r_6), (4, .long r_5), (3, .int r_3), (2, .int r_1), (0, .ref (ad 110)), (1, .int x)]) hx hb dX4_choose_91 hl (by decide) rfl (fun ls hl => ?_)
        refine lv_aload_n hx hb dX4_choose_93 rfl (lv_at hl 7 rfl) ?_
        refine lv_aload_n hx hb dX4_choose_94 rfl (lv_at hl 7 rfl) ?_
        refine va_get (D := D) (ci := 3) (v := .ref (ad 130)) (C := RX4) (T := TX4) (N := 6) hx hb hts inX4 hown hK hP 0 mcw_o0 rfl 3 (by decide) fl24 (fun _ h9 => h9) rfl dX4_choose_95 ?_
        refine lv_bipush (v := 30) hx hb dX4_choose_98 (by decide) ?_
        refine lv_iload hx hb dX4_choose_100 (lv_at hl 0 rfl) ?_
        refine lv_iload hx hb dX4_choose_102 (lv_at hl 0 rfl) ?_
        refine lv_iload hx hb dX4_choose_104 (lv_at hl 1 rfl) ?_
        refine lv_if_eq (tgt := 114) hx hb dX4_choose_106 (by decide) (fun c_26 => ?_) (fun c_26 => ?_)
        · exact absurd c_26 (by decide)
        · refine lv_lload hx hb dX4_choose_109 (lv_at hl 3 rfl) ?_
          refine lv_goto (tgt := 116) hx hb dX4_choose_111 (by decide) ?_
          have hPs : va_P D vwCl (tpw y ad (sJ (sI (sI (sI σ 115 n_2) 115 n_4) 142 n_7) 143 j_8)) H := x_suP hP [2, 11, 12, 13, 14, 15] rfl
          have hDs : va_D A (tpw y ad (sJ (sI (sI (sI σ 115 n_2) 115 n_4) 142 n_7) 143 j_8)) := x_suD hD [2, 11, 12, 13, 14, 15] rfl (by decide)
          refine x_calliS (b1 := fun (u : (Nat → Int32) × (Nat → Int32) × (Nat → Int32) × (Nat → Int64) × Int32 × Int32) => (mcw y ad (sI (sI (tJ (tI (tI (tI (sJ (sI (sI (sI σ 115 n_2) 115 n_4) 142 n_7) 143 j_8) 132 u.1) 133 u.2.1) 134 u.2.2.1) 131 u.2.2.2.1) 139 u.2.2.2.2.1) 140 u.2.2.2.2.2))) [2, 11, 12, 13, 14, 15] (va_runV (As := [.int 30, .int r_1, .int r_1, .long r_6]) (rest := [.ref (ad 110)]) ⟨hx, hb, hml, hown, hts⟩ (ka_lay l D y H.size ad (sJ (sI (sI (sI σ 115 n_2) 115 n_4) 142 n_7) 143 j_8) 30 r_1 r_1 r_6 (show 0 ≤ ((σ.1 139)).toInt from by first | omega | decide) (show ((σ.1 139)).toInt ≤ 1359 from by first | omega | decide) hB133 hB134) (cwV 4 hts g_mc_choose_4 rfl rfl rfl (by decide +kernel) ⟨Nat.le_of_ble_eq_true rfl, Nat.le_of_ble_eq_true rfl⟩) (x_preV (q := (RX8, TX8, 13)) hK hPs hDs (ci := 7) (q0 := 0) rfl tpw_o0) rfl rfl hl.1 rfl (lv_room (Nat.le_of_ble_eq_true rfl)) dX4_choose_116 ⟨Nat.le_of_ble_eq_true rfl, Nat.le_of_ble_eq_true rfl⟩) hP hD hS hA rfl (fun _ => rfl) (fun _ => rfl) (fun _ => rfl) (fun r_27 u H locs hw hP hD hS => ?_)
          obtain ⟨f_28, f_29, f_30, f_31, n_32, n_33⟩ := u
          try dsimp only at hw
          have hP : va_P D vwCl (mcw y ad (sI (sI (tJ (tI (tI (tI (sJ (sI (sI (sI σ 115 n_2) 115 n_4) 142 n_7) 143 j_8) 132 f_28) 133 f_29) 134 f_30) 131 f_31) 139 n_32) 140 n_33)) H := hP
          have hD : va_D A (mcw y ad (sI (sI (tJ (tI (tI (tI (sJ (sI (sI (sI σ 115 n_2) 115 n_4) 142 n_7) 143 j_8) 132 f_28) 133 f_29) 134 f_30) 131 f_31) 139 n_32) 140 n_33)) := hD
          replace hw : (0 ≤ n_32.toInt ∧ n_32.toInt ≤ 1359) ∧ bI f_29 0 1358 ∧ bI f_30 0 1358 := hw
          obtain ⟨hw, hg_34, hg_35⟩ := hw
          refine x_callvW (va_runV (As := [.int r_27]) (rest := []) ⟨hx, hb, hml, hown, hts⟩ (mc_push l D y H.size ad (sI (sI (tJ (tI (tI (tI (sJ (sI (sI (sI σ 115 n_2) 115 n_4) 142 n_7) 143 j_8) 132 f_28) 133 f_29) 134 f_30) 131 f_31) 139 n_32) 140 n_33) r_27 (show 0 ≤ (n_4).toInt from by first | omega | decide) (show (n_4).toInt ≤ 64 from by first | omega | decide)) (cwV 1 hts g_mc_choose_5 rfl rfl rfl (by decide +kernel) ⟨Nat.le_of_ble_eq_true rfl, Nat.le_of_ble_eq_true rfl⟩) (x_preV (q := (RX4, TX4, 6)) hK hP hD (ci := 3) (q0 := 0) rfl mcw_o0) rfl rfl hl.1 rfl (lv_room (Nat.le_of_ble_eq_true rfl)) dX4_choose_119 ⟨Nat.le_of_ble_eq_true rfl, Nat.le_of_ble_eq_true rfl⟩) hP hD hS hA (fun u H locs hw hP hD hS => ?_)
          obtain ⟨f_36, n_37⟩ := u
          try dsimp only at hw
          have hP : va_P D vwCl (mcw y ad (sI (tI (sI (sI (tJ (tI (tI (tI (sJ (sI (sI (sI σ 115 n_2) 115 n_4) 142 n_7) 143 j_8) 132 f_28) 133 f_29) 134 f_30) 131 f_31) 139 n_32) 140 n_33) 111 f_36) 115 n_37)) H := hP
          have hD : va_D A (mcw y ad (sI (tI (sI (sI (tJ (tI (tI (tI (sJ (sI (sI (sI σ 115 n_2) 115 n_4) 142 n_7) 143 j_8) 132 f_28) 133 f_29) 134 f_30) 131 f_31) 139 n_32) 140 n_33) 111 f_36) 115 n_37)) := hD
          replace hw : 0 ≤ n_37.toInt ∧ n_37.toInt ≤ 64 := hw
          have hP : va_P D vwCl (mcw y ad (sI (sJ (sI (sI (tI (sI (sI (tJ (tI (tI (tI (sI (sI (tI (tI σ 111 f_36) 112 (σ.2.2.1 112)) 115 n_37) 116 (σ.1 116)) 132 f_28) 133 f_29) 134 f_30) 131 f_31) 139 n_32) 140 n_33) 135 (σ.2.2.1 135)) 141 (σ.1 141)) 142 n_7) 143 j_8) 136 (σ.1 136))) H := hP
          have hD : va_D A (mcw y ad (sI (sJ (sI (sI (tI (sI (sI (tJ (tI (tI (tI (sI (sI (tI (tI σ 111 f_36) 112 (σ.2.2.1 112)) 115 n_37) 116 (σ.1 116)) 132 f_28) 133 f_29) 134 f_30) 131 f_31) 139 n_32) 140 n_33) 135 (σ.2.2.1 135)) 141 (σ.1 141)) 142 n_7) 143 j_8) 136 (σ.1 136))) := hD
          exact x_vretW (u := (f_36, (σ.2.2.1 112), n_37, (σ.1 116), f_28, f_29, f_30, f_31, n_32, n_33, (σ.2.2.1 135), (σ.1 141), n_7, j_8, (σ.1 136))) hx hb hr hQ (by (try dsimp only); exact ⟨⟨by omega, by omega, by omega, by omega, by omega, by omega⟩, hg_34, hg_35, hB135⟩) hP hD hK hS dX4_choose_122 hlocks
  · have kc_10 : x.toInt = 11 := by have h9 := c_10; simp only [ge_iff_le, gt_iff_lt, x_lt, x_le, x_eq, ne_eq, Int32.not_lt, Int32.not_le] at h9; simp only [Int32.reduceToInt] at h9; omega
    refine lv_iload hx hb dX4_choose_56 (lv_at hl 0 rfl) ?_
    refine lv_if_le (tgt := 65) hx hb dX4_choose_58 (by decide) (fun c_38 => ?_) (fun c_38 => ?_)
    · have kc_38 : r_9.toInt ≤ 0 := by have h9 := c_38; simp only [ge_iff_le, gt_iff_lt, x_lt, x_le, x_eq, ne_eq, Int32.not_lt, Int32.not_le] at h9; simp only [Int32.reduceToInt] at h9; omega
      refine lv_iconst (v := 0) hx hb dX4_choose_65 (by decide) ?_
      refine lv_goto (tgt := 79) hx hb dX4_choose_66 (by decide) ?_
      refine lv_istore (lv' := [(9, .int 0), (8, .int r_9), (6, .long r_6), (4, .long r_5), (3, .int r_3), (2, .int r_1), (0, .ref (ad 110)), (1, .int x)]) hx hb dX4_choose_79 hl (by decide) rfl (fun ls hl => ?_)
      refine lv_iload hx hb dX4_choose_81 (lv_at hl 0 rfl) ?_
      refine lv_if_eq (tgt := 90) hx hb dX4_choose_83 (by decide) (fun c_39 => ?_) (fun c_39 => ?_)
      · refine lv_iload_n hx hb dX4_choose_90 rfl (lv_at hl 4 rfl) ?_
        refine lv_istore (lv' := [(10, .int r_3), (9, .int 0), (8, .int r_9), (6, .long r_6), (4, .long r_5), (3, .int r_3), (2, .int r_1), (0, .ref (ad 110)), (1, .int x)]) hx hb dX4_choose_91 hl (by decide) rfl (fun ls hl => ?_)
        refine lv_aload_n hx hb dX4_choose_93 rfl (lv_at hl 7 rfl) ?_
        refine lv_aload_n hx hb dX4_choose_94 rfl (lv_at hl 7 rfl) ?_
        refine va_get (D := D) (ci := 3) (v := .ref (ad 130)) (C := RX4) (T := TX4) (N := 6) hx hb hts inX4 hown hK hP 0 mcw_o0 rfl 3 (by decide) fl24 (fun _ h9 => h9) rfl dX4_choose_95 ?_
        refine lv_bipush (v := 30) hx hb dX4_choose_98 (by decide) ?_
        refine lv_iload hx hb dX4_choose_100 (lv_at hl 0 rfl) ?_
        refine lv_iload hx hb dX4_choose_102 (lv_at hl 0 rfl) ?_
        refine lv_iload hx hb dX4_choose_104 (lv_at hl 1 rfl) ?_
        refine lv_if_eq (tgt := 114) hx hb dX4_choose_106 (by decide) (fun c_40 => ?_) (fun c_40 => ?_)
        · refine lv_lload hx hb dX4_choose_114 (lv_at hl 4 rfl) ?_
          have hPs : va_P D vwCl (tpw y ad (sJ (sI (sI (sI σ 115 n_2) 115 n_4) 142 n_7) 143 j_8)) H := x_suP hP [2, 11, 12, 13, 14, 15] rfl
          have hDs : va_D A (tpw y ad (sJ (sI (sI (sI σ 115 n_2) 115 n_4) 142 n_7) 143 j_8)) := x_suD hD [2, 11, 12, 13, 14, 15] rfl (by decide)
          refine x_calliS (b1 := fun (u : (Nat → Int32) × (Nat → Int32) × (Nat → Int32) × (Nat → Int64) × Int32 × Int32) => (mcw y ad (sI (sI (tJ (tI (tI (tI (sJ (sI (sI (sI σ 115 n_2) 115 n_4) 142 n_7) 143 j_8) 132 u.1) 133 u.2.1) 134 u.2.2.1) 131 u.2.2.2.1) 139 u.2.2.2.2.1) 140 u.2.2.2.2.2))) [2, 11, 12, 13, 14, 15] (va_runV (As := [.int 30, .int r_3, .int r_3, .long r_5]) (rest := [.ref (ad 110)]) ⟨hx, hb, hml, hown, hts⟩ (ka_lay l D y H.size ad (sJ (sI (sI (sI σ 115 n_2) 115 n_4) 142 n_7) 143 j_8) 30 r_3 r_3 r_5 (show 0 ≤ ((σ.1 139)).toInt from by first | omega | decide) (show ((σ.1 139)).toInt ≤ 1359 from by first | omega | decide) hB133 hB134) (cwV 4 hts g_mc_choose_4 rfl rfl rfl (by decide +kernel) ⟨Nat.le_of_ble_eq_true rfl, Nat.le_of_ble_eq_true rfl⟩) (x_preV (q := (RX8, TX8, 13)) hK hPs hDs (ci := 7) (q0 := 0) rfl tpw_o0) rfl rfl hl.1 rfl (lv_room (Nat.le_of_ble_eq_true rfl)) dX4_choose_116 ⟨Nat.le_of_ble_eq_true rfl, Nat.le_of_ble_eq_true rfl⟩) hP hD hS hA rfl (fun _ => rfl) (fun _ => rfl) (fun _ => rfl) (fun r_41 u H locs hw hP hD hS => ?_)
          obtain ⟨f_42, f_43, f_44, f_45, n_46, n_47⟩ := u
          try dsimp only at hw
          have hP : va_P D vwCl (mcw y ad (sI (sI (tJ (tI (tI (tI (sJ (sI (sI (sI σ 115 n_2) 115 n_4) 142 n_7) 143 j_8) 132 f_42) 133 f_43) 134 f_44) 131 f_45) 139 n_46) 140 n_47)) H := hP
          have hD : va_D A (mcw y ad (sI (sI (tJ (tI (tI (tI (sJ (sI (sI (sI σ 115 n_2) 115 n_4) 142 n_7) 143 j_8) 132 f_42) 133 f_43) 134 f_44) 131 f_45) 139 n_46) 140 n_47)) := hD
          replace hw : (0 ≤ n_46.toInt ∧ n_46.toInt ≤ 1359) ∧ bI f_43 0 1358 ∧ bI f_44 0 1358 := hw
          obtain ⟨hw, hg_48, hg_49⟩ := hw
          refine x_callvW (va_runV (As := [.int r_41]) (rest := []) ⟨hx, hb, hml, hown, hts⟩ (mc_push l D y H.size ad (sI (sI (tJ (tI (tI (tI (sJ (sI (sI (sI σ 115 n_2) 115 n_4) 142 n_7) 143 j_8) 132 f_42) 133 f_43) 134 f_44) 131 f_45) 139 n_46) 140 n_47) r_41 (show 0 ≤ (n_4).toInt from by first | omega | decide) (show (n_4).toInt ≤ 64 from by first | omega | decide)) (cwV 1 hts g_mc_choose_5 rfl rfl rfl (by decide +kernel) ⟨Nat.le_of_ble_eq_true rfl, Nat.le_of_ble_eq_true rfl⟩) (x_preV (q := (RX4, TX4, 6)) hK hP hD (ci := 3) (q0 := 0) rfl mcw_o0) rfl rfl hl.1 rfl (lv_room (Nat.le_of_ble_eq_true rfl)) dX4_choose_119 ⟨Nat.le_of_ble_eq_true rfl, Nat.le_of_ble_eq_true rfl⟩) hP hD hS hA (fun u H locs hw hP hD hS => ?_)
          obtain ⟨f_50, n_51⟩ := u
          try dsimp only at hw
          have hP : va_P D vwCl (mcw y ad (sI (tI (sI (sI (tJ (tI (tI (tI (sJ (sI (sI (sI σ 115 n_2) 115 n_4) 142 n_7) 143 j_8) 132 f_42) 133 f_43) 134 f_44) 131 f_45) 139 n_46) 140 n_47) 111 f_50) 115 n_51)) H := hP
          have hD : va_D A (mcw y ad (sI (tI (sI (sI (tJ (tI (tI (tI (sJ (sI (sI (sI σ 115 n_2) 115 n_4) 142 n_7) 143 j_8) 132 f_42) 133 f_43) 134 f_44) 131 f_45) 139 n_46) 140 n_47) 111 f_50) 115 n_51)) := hD
          replace hw : 0 ≤ n_51.toInt ∧ n_51.toInt ≤ 64 := hw
          have hP : va_P D vwCl (mcw y ad (sI (sJ (sI (sI (tI (sI (sI (tJ (tI (tI (tI (sI (sI (tI (tI σ 111 f_50) 112 (σ.2.2.1 112)) 115 n_51) 116 (σ.1 116)) 132 f_42) 133 f_43) 134 f_44) 131 f_45) 139 n_46) 140 n_47) 135 (σ.2.2.1 135)) 141 (σ.1 141)) 142 n_7) 143 j_8) 136 (σ.1 136))) H := hP
          have hD : va_D A (mcw y ad (sI (sJ (sI (sI (tI (sI (sI (tJ (tI (tI (tI (sI (sI (tI (tI σ 111 f_50) 112 (σ.2.2.1 112)) 115 n_51) 116 (σ.1 116)) 132 f_42) 133 f_43) 134 f_44) 131 f_45) 139 n_46) 140 n_47) 135 (σ.2.2.1 135)) 141 (σ.1 141)) 142 n_7) 143 j_8) 136 (σ.1 136))) := hD
          exact x_vretW (u := (f_50, (σ.2.2.1 112), n_51, (σ.1 116), f_42, f_43, f_44, f_45, n_46, n_47, (σ.2.2.1 135), (σ.1 141), n_7, j_8, (σ.1 136))) hx hb hr hQ (by (try dsimp only); exact ⟨⟨by omega, by omega, by omega, by omega, by omega, by omega⟩, hg_48, hg_49, hB135⟩) hP hD hK hS dX4_choose_122 hlocks
        · exact absurd (by decide) c_40
      · exact absurd (by decide) c_39
    · have kc_38 : r_9.toInt > 0 := by have h9 := c_38; simp only [ge_iff_le, gt_iff_lt, x_lt, x_le, x_eq, ne_eq, Int32.not_lt, Int32.not_le] at h9; simp only [Int32.reduceToInt] at h9; omega
      refine lv_iconst (v := 1) hx hb dX4_choose_61 (by decide) ?_
      refine lv_goto (tgt := 79) hx hb dX4_choose_62 (by decide) ?_
      refine lv_istore (lv' := [(9, .int 1), (8, .int r_9), (6, .long r_6), (4, .long r_5), (3, .int r_3), (2, .int r_1), (0, .ref (ad 110)), (1, .int x)]) hx hb dX4_choose_79 hl (by decide) rfl (fun ls hl => ?_)
      refine lv_iload hx hb dX4_choose_81 (lv_at hl 0 rfl) ?_
      refine lv_if_eq (tgt := 90) hx hb dX4_choose_83 (by decide) (fun c_52 => ?_) (fun c_52 => ?_)
      · exact absurd c_52 (by decide)
      · refine lv_iload_n hx hb dX4_choose_86 rfl (lv_at hl 5 rfl) ?_
        refine lv_goto (tgt := 91) hx hb dX4_choose_87 (by decide) ?_
        refine lv_istore (lv' := [(10, .int r_1), (9, .int 1), (8, .int r_9), (6, .long r_6), (4, .long r_5), (3, .int r_3), (2, .int r_1), (0, .ref (ad 110)), (1, .int x)]) hx hb dX4_choose_91 hl (by decide) rfl (fun ls hl => ?_)
        refine lv_aload_n hx hb dX4_choose_93 rfl (lv_at hl 7 rfl) ?_
        refine lv_aload_n hx hb dX4_choose_94 rfl (lv_at hl 7 rfl) ?_
        refine va_get (D := D) (ci := 3) (v := .ref (ad 130)) (C := RX4) (T := TX4) (N := 6) hx hb hts inX4 hown hK hP 0 mcw_o0 rfl 3 (by decide) fl24 (fun _ h9 => h9) rfl dX4_choose_95 ?_
        refine lv_bipush (v := 30) hx hb dX4_choose_98 (by decide) ?_
        refine lv_iload hx hb dX4_choose_100 (lv_at hl 0 rfl) ?_
        refine lv_iload hx hb dX4_choose_102 (lv_at hl 0 rfl) ?_
        refine lv_iload hx hb dX4_choose_104 (lv_at hl 1 rfl) ?_
        refine lv_if_eq (tgt := 114) hx hb dX4_choose_106 (by decide) (fun c_53 => ?_) (fun c_53 => ?_)
        · exact absurd c_53 (by decide)
        · refine lv_lload hx hb dX4_choose_109 (lv_at hl 3 rfl) ?_
          refine lv_goto (tgt := 116) hx hb dX4_choose_111 (by decide) ?_
          have hPs : va_P D vwCl (tpw y ad (sJ (sI (sI (sI σ 115 n_2) 115 n_4) 142 n_7) 143 j_8)) H := x_suP hP [2, 11, 12, 13, 14, 15] rfl
          have hDs : va_D A (tpw y ad (sJ (sI (sI (sI σ 115 n_2) 115 n_4) 142 n_7) 143 j_8)) := x_suD hD [2, 11, 12, 13, 14, 15] rfl (by decide)
          refine x_calliS (b1 := fun (u : (Nat → Int32) × (Nat → Int32) × (Nat → Int32) × (Nat → Int64) × Int32 × Int32) => (mcw y ad (sI (sI (tJ (tI (tI (tI (sJ (sI (sI (sI σ 115 n_2) 115 n_4) 142 n_7) 143 j_8) 132 u.1) 133 u.2.1) 134 u.2.2.1) 131 u.2.2.2.1) 139 u.2.2.2.2.1) 140 u.2.2.2.2.2))) [2, 11, 12, 13, 14, 15] (va_runV (As := [.int 30, .int r_1, .int r_1, .long r_6]) (rest := [.ref (ad 110)]) ⟨hx, hb, hml, hown, hts⟩ (ka_lay l D y H.size ad (sJ (sI (sI (sI σ 115 n_2) 115 n_4) 142 n_7) 143 j_8) 30 r_1 r_1 r_6 (show 0 ≤ ((σ.1 139)).toInt from by first | omega | decide) (show ((σ.1 139)).toInt ≤ 1359 from by first | omega | decide) hB133 hB134) (cwV 4 hts g_mc_choose_4 rfl rfl rfl (by decide +kernel) ⟨Nat.le_of_ble_eq_true rfl, Nat.le_of_ble_eq_true rfl⟩) (x_preV (q := (RX8, TX8, 13)) hK hPs hDs (ci := 7) (q0 := 0) rfl tpw_o0) rfl rfl hl.1 rfl (lv_room (Nat.le_of_ble_eq_true rfl)) dX4_choose_116 ⟨Nat.le_of_ble_eq_true rfl, Nat.le_of_ble_eq_true rfl⟩) hP hD hS hA rfl (fun _ => rfl) (fun _ => rfl) (fun _ => rfl) (fun r_54 u H locs hw hP hD hS => ?_)
          obtain ⟨f_55, f_56, f_57, f_58, n_59, n_60⟩ := u
          try dsimp only at hw
          have hP : va_P D vwCl (mcw y ad (sI (sI (tJ (tI (tI (tI (sJ (sI (sI (sI σ 115 n_2) 115 n_4) 142 n_7) 143 j_8) 132 f_55) 133 f_56) 134 f_57) 131 f_58) 139 n_59) 140 n_60)) H := hP
          have hD : va_D A (mcw y ad (sI (sI (tJ (tI (tI (tI (sJ (sI (sI (sI σ 115 n_2) 115 n_4) 142 n_7) 143 j_8) 132 f_55) 133 f_56) 134 f_57) 131 f_58) 139 n_59) 140 n_60)) := hD
          replace hw : (0 ≤ n_59.toInt ∧ n_59.toInt ≤ 1359) ∧ bI f_56 0 1358 ∧ bI f_57 0 1358 := hw
          obtain ⟨hw, hg_61, hg_62⟩ := hw
          refine x_callvW (va_runV (As := [.int r_54]) (rest := []) ⟨hx, hb, hml, hown, hts⟩ (mc_push l D y H.size ad (sI (sI (tJ (tI (tI (tI (sJ (sI (sI (sI σ 115 n_2) 115 n_4) 142 n_7) 143 j_8) 132 f_55) 133 f_56) 134 f_57) 131 f_58) 139 n_59) 140 n_60) r_54 (show 0 ≤ (n_4).toInt from by first | omega | decide) (show (n_4).toInt ≤ 64 from by first | omega | decide)) (cwV 1 hts g_mc_choose_5 rfl rfl rfl (by decide +kernel) ⟨Nat.le_of_ble_eq_true rfl, Nat.le_of_ble_eq_true rfl⟩) (x_preV (q := (RX4, TX4, 6)) hK hP hD (ci := 3) (q0 := 0) rfl mcw_o0) rfl rfl hl.1 rfl (lv_room (Nat.le_of_ble_eq_true rfl)) dX4_choose_119 ⟨Nat.le_of_ble_eq_true rfl, Nat.le_of_ble_eq_true rfl⟩) hP hD hS hA (fun u H locs hw hP hD hS => ?_)
          obtain ⟨f_63, n_64⟩ := u
          try dsimp only at hw
          have hP : va_P D vwCl (mcw y ad (sI (tI (sI (sI (tJ (tI (tI (tI (sJ (sI (sI (sI σ 115 n_2) 115 n_4) 142 n_7) 143 j_8) 132 f_55) 133 f_56) 134 f_57) 131 f_58) 139 n_59) 140 n_60) 111 f_63) 115 n_64)) H := hP
          have hD : va_D A (mcw y ad (sI (tI (sI (sI (tJ (tI (tI (tI (sJ (sI (sI (sI σ 115 n_2) 115 n_4) 142 n_7) 143 j_8) 132 f_55) 133 f_56) 134 f_57) 131 f_58) 139 n_59) 140 n_60) 111 f_63) 115 n_64)) := hD
          replace hw : 0 ≤ n_64.toInt ∧ n_64.toInt ≤ 64 := hw
          have hP : va_P D vwCl (mcw y ad (sI (sJ (sI (sI (tI (sI (sI (tJ (tI (tI (tI (sI (sI (tI (tI σ 111 f_63) 112 (σ.2.2.1 112)) 115 n_64) 116 (σ.1 116)) 132 f_55) 133 f_56) 134 f_57) 131 f_58) 139 n_59) 140 n_60) 135 (σ.2.2.1 135)) 141 (σ.1 141)) 142 n_7) 143 j_8) 136 (σ.1 136))) H := hP
          have hD : va_D A (mcw y ad (sI (sJ (sI (sI (tI (sI (sI (tJ (tI (tI (tI (sI (sI (tI (tI σ 111 f_63) 112 (σ.2.2.1 112)) 115 n_64) 116 (σ.1 116)) 132 f_55) 133 f_56) 134 f_57) 131 f_58) 139 n_59) 140 n_60) 135 (σ.2.2.1 135)) 141 (σ.1 141)) 142 n_7) 143 j_8) 136 (σ.1 136))) := hD
          exact x_vretW (u := (f_63, (σ.2.2.1 112), n_64, (σ.1 116), f_55, f_56, f_57, f_58, n_59, n_60, (σ.2.2.1 135), (σ.1 141), n_7, j_8, (σ.1 136))) hx hb hr hQ (by (try dsimp only); exact ⟨⟨by omega, by omega, by omega, by omega, by omega, by omega⟩, hg_61, hg_62, hB135⟩) hP hD hK hS dX4_choose_122 hlocks

def v_mc_compare : List Cond := .code yX4_compare cX4_compare 7 none :: ([.fieldLink RX4 24 "SlopeRunner$Machine" "tape" "LSlopeRunner$Tape;", .fieldLink RX4 107 "SlopeRunner$Tape" "steps" "I"] ++ ((wsV RX4 81 RX4 yX4_pop v_mc_pop) ++ ((wsV RX4 88 RX8 yX8_valueAt v_ka_valueAt) ++ ((wsV RX4 143 RX8 yX8_meet v_ka_meet) ++ ((va_wsS RX4 150 yX0_compare v_k_compare) ++ ((wsV RX4 153 RX4 yX4_pushFact v_mc_pushFact) ++ (wsX40 ++ wsX80)))))))
theorem g_mc_compare_0 : GoodIn v_mc_compare (wsV RX4 81 RX4 yX4_pop v_mc_pop) := goodIn_sub (fun w h => List.mem_cons_of_mem _ (List.mem_append_right _ (List.mem_append_left _ h))) (by decide +kernel)
theorem g_mc_compare_1 : GoodIn v_mc_compare (wsV RX4 88 RX8 yX8_valueAt v_ka_valueAt) := goodIn_sub (fun w h => List.mem_cons_of_mem _ (List.mem_append_right _ (List.mem_append_right _ (List.mem_append_left _ h)))) (by decide +kernel)
theorem g_mc_compare_2 : GoodIn v_mc_compare (wsV RX4 143 RX8 yX8_meet v_ka_meet) := goodIn_sub (fun w h => List.mem_cons_of_mem _ (List.mem_append_right _ (List.mem_append_right _ (List.mem_append_right _ (List.mem_append_left _ h))))) (by decide +kernel)
theorem g_mc_compare_3 : GoodIn v_mc_compare (va_wsS RX4 150 yX0_compare v_k_compare) := goodIn_sub (fun w h => List.mem_cons_of_mem _ (List.mem_append_right _ (List.mem_append_right _ (List.mem_append_right _ (List.mem_append_right _ (List.mem_append_left _ h)))))) (by decide +kernel)
theorem g_mc_compare_4 : GoodIn v_mc_compare (wsV RX4 153 RX4 yX4_pushFact v_mc_pushFact) := goodIn_sub (fun w h => List.mem_cons_of_mem _ (List.mem_append_right _ (List.mem_append_right _ (List.mem_append_right _ (List.mem_append_right _ (List.mem_append_right _ (List.mem_append_left _ h))))))) (by decide +kernel)
set_option maxHeartbeats 4000000 in
set_option maxRecDepth 100000 in
theorem mc_compare (l : Launch) (D : va_G) (y : Nat → ClassId) (sz : Nat) (ad : Nat → Nat) (σ : OS) (x : Int32) (htop0 : 0 ≤ (σ.1 115).toInt) (htop1 : (σ.1 115).toInt ≤ 64) (hsize0 : 0 ≤ (σ.1 139).toInt) (hsize1 : (σ.1 139).toInt ≤ 1359) (hresults0 : 0 ≤ (σ.1 141).toInt) (hresults1 : (σ.1 141).toInt ≤ 12) (hinputs0 : 0 ≤ (σ.1 137).toInt) (hinputs1 : (σ.1 137).toInt ≤ 8) (hplength0 : 0 ≤ (σ.1 86).toInt) (hplength1 : (σ.1 86).toInt ≤ 700) (hprows0 : 0 ≤ (σ.1 82).toInt) (hprows1 : (σ.1 82).toInt ≤ 4)  (hB133 : bI (σ.2.2.1 133) 0 1358) (hB134 : bI (σ.2.2.1 134) 0 1358) (hB135 : bI (σ.2.2.1 135) 0 1358) : Met l yX4_compare v_mc_compare ({ frames := 4, cells := 0, slots := 0, locals := 118 } : Room) (va_Pc [.ref (ad 110), .int x] (xPre D (xT y) (mcw y ad σ) sz)) (va_Qv (fun (u : (Nat → Int32) × (Nat → Int32) × Int32 × Int32 × (Nat → Int32) × (Nat → Int32) × (Nat → Int32) × (Nat → Int64) × Int32 × Int32 × (Nat → Int32) × Int32 × Int32 × Int64 × Int32) => (0 ≤ u.2.2.1.toInt ∧ u.2.2.1.toInt ≤ 64 ∧ 0 ≤ u.2.2.2.2.2.2.2.2.1.toInt ∧ u.2.2.2.2.2.2.2.2.1.toInt ≤ 1359 ∧ 0 ≤ u.2.2.2.2.2.2.2.2.2.2.2.1.toInt ∧ u.2.2.2.2.2.2.2.2.2.2.2.1.toInt ≤ 12) ∧ bI u.2.2.2.2.2.1 0 1358 ∧ bI u.2.2.2.2.2.2.1 0 1358 ∧ bI u.2.2.2.2.2.2.2.2.2.2.1 0 1358) (fun (u : (Nat → Int32) × (Nat → Int32) × Int32 × Int32 × (Nat → Int32) × (Nat → Int32) × (Nat → Int32) × (Nat → Int64) × Int32 × Int32 × (Nat → Int32) × Int32 × Int32 × Int64 × Int32) => xB D (xT y) (va_A (mcw y ad σ) sz) (mcw y ad (sI (sJ (sI (sI (tI (sI (sI (tJ (tI (tI (tI (sI (sI (tI (tI σ 111 u.1) 112 u.2.1) 115 u.2.2.1) 116 u.2.2.2.1) 132 u.2.2.2.2.1) 133 u.2.2.2.2.2.1) 134 u.2.2.2.2.2.2.1) 131 u.2.2.2.2.2.2.2.1) 139 u.2.2.2.2.2.2.2.2.1) 140 u.2.2.2.2.2.2.2.2.2.1) 135 u.2.2.2.2.2.2.2.2.2.2.1) 141 u.2.2.2.2.2.2.2.2.2.2.2.1) 142 u.2.2.2.2.2.2.2.2.2.2.2.2.1) 143 u.2.2.2.2.2.2.2.2.2.2.2.2.2.1) 136 u.2.2.2.2.2.2.2.2.2.2.2.2.2.2))) (va_A (mcw y ad σ) sz)) 0 0 (va_A (mcw y ad σ) sz) := by
  refine x_metv (cc := cX4_compare) (maxL := 7) (by decide) rfl (Nat.le_of_ble_eq_true rfl) ?_
  intro p e s m below meth c A H locs Q hx hb hml hown hts hr hlocks hmn hA hP hK hD hS ls hl hQ
  have hl : lv_has ls 7 [(0, .ref (ad 110)), (1, .int x)] := hl
  have fl24 := hts (.fieldLink RX4 24 "SlopeRunner$Machine" "tape" "LSlopeRunner$Tape;") (List.mem_of_getElem? (i := 1) rfl)
  have inX4 : ∀ w ∈ wsX40, w ∈ v_mc_compare := (fun w h => List.mem_cons_of_mem _ (List.mem_append_right _ (List.mem_append_right _ (List.mem_append_right _ (List.mem_append_right _ (List.mem_append_right _ (List.mem_append_right _ (List.mem_append_left _ h))))))))
  have fl107 := hts (.fieldLink RX4 107 "SlopeRunner$Tape" "steps" "I") (List.mem_of_getElem? (i := 2) rfl)
  have inX8 : ∀ w ∈ wsX80, w ∈ v_mc_compare := (fun w h => List.mem_cons_of_mem _ (List.mem_append_right _ (List.mem_append_right _ (List.mem_append_right _ (List.mem_append_right _ (List.mem_append_right _ (List.mem_append_right _ (List.mem_append_right _ h))))))))
  have kk_0 : (0 : Int32).toInt = 0 := rfl
  have kk_1 : (1 : Int32).toInt = 1 := rfl
  refine lv_aload_n hx hb dX4_compare_0 rfl (lv_at hl 0 rfl) ?_
  refine va_get (D := D) (ci := 3) (v := .ref (ad 130)) (C := RX4) (T := TX4) (N := 6) hx hb hts inX4 hown hK hP 0 mcw_o0 rfl 3 (by decide) fl24 (fun _ h9 => h9) rfl dX4_compare_1 ?_
  refine lv_aload_n hx hb dX4_compare_4 rfl (lv_at hl 0 rfl) ?_
  refine x_calliW (va_runV (As := []) (rest := [.ref (ad 130)]) ⟨hx, hb, hml, hown, hts⟩ (mc_pop l D y H.size ad σ (show 0 ≤ ((σ.1 115)).toInt from by first | omega | decide) (show ((σ.1 115)).toInt ≤ 64 from by first | omega | decide)) (cwV 0 hts g_mc_compare_0 rfl rfl rfl (by decide +kernel) ⟨Nat.le_of_ble_eq_true rfl, Nat.le_of_ble_eq_true rfl⟩) (x_preV (q := (RX4, TX4, 6)) hK hP hD (ci := 3) (q0 := 0) rfl mcw_o0) rfl rfl hl.1 rfl (lv_room (Nat.le_of_ble_eq_true rfl)) dX4_compare_5 ⟨Nat.le_of_ble_eq_true rfl, Nat.le_of_ble_eq_true rfl⟩) hP hD hS hA (fun r_1 u H locs hw hP hD hS => ?_)
  obtain ⟨n_2, rfl⟩ : ∃ z9, z9 = u := ⟨_, rfl⟩
  try dsimp only at hw
  have hP : va_P D vwCl (mcw y ad (sI σ 115 n_2)) H := hP
  have hD : va_D A (mcw y ad (sI σ 115 n_2)) := hD
  replace hw : 0 ≤ n_2.toInt ∧ n_2.toInt ≤ 64 := hw
  have hPs : va_P D vwCl (tpw y ad (sI σ 115 n_2)) H := x_suP hP [2, 11, 12, 13, 14, 15] rfl
  have hDs : va_D A (tpw y ad (sI σ 115 n_2)) := x_suD hD [2, 11, 12, 13, 14, 15] rfl (by decide)
  refine x_calllS (b1 := fun (u : Unit) => (mcw y ad (sI σ 115 n_2))) [2, 11, 12, 13, 14, 15] (va_runV (As := [.int r_1]) (rest := []) ⟨hx, hb, hml, hown, hts⟩ (ka_valueAt l D y H.size ad (sI σ 115 n_2) r_1 (show 0 ≤ ((σ.1 139)).toInt from by first | omega | decide) (show ((σ.1 139)).toInt ≤ 1359 from by first | omega | decide)) (cwV 1 hts g_mc_compare_1 rfl rfl rfl (by decide +kernel) ⟨Nat.le_of_ble_eq_true rfl, Nat.le_of_ble_eq_true rfl⟩) (x_preV (q := (RX8, TX8, 13)) hK hPs hDs (ci := 7) (q0 := 0) rfl tpw_o0) rfl rfl hl.1 rfl (lv_room (Nat.le_of_ble_eq_true rfl)) dX4_compare_8 ⟨Nat.le_of_ble_eq_true rfl, Nat.le_of_ble_eq_true rfl⟩) hP hD hS hA rfl (fun _ => rfl) (fun _ => rfl) (fun _ => rfl) (fun r_3 u H locs hw hP hD hS => ?_)
  try dsimp only at hw
  have hP : va_P D vwCl (mcw y ad (sI σ 115 n_2)) H := hP
  have hD : va_D A (mcw y ad (sI σ 115 n_2)) := hD
  refine lv_lstore_n (lv' := [(2, .long r_3), (0, .ref (ad 110)), (1, .int x)]) hx hb dX4_compare_11 rfl hl (by decide) rfl (fun ls hl => ?_)
  refine lv_aload_n hx hb dX4_compare_12 rfl (lv_at hl 1 rfl) ?_
  refine va_get (D := D) (ci := 3) (v := .ref (ad 130)) (C := RX4) (T := TX4) (N := 6) hx hb hts inX4 hown hK hP 0 mcw_o0 rfl 3 (by decide) fl24 (fun _ h9 => h9) rfl dX4_compare_13 ?_
  refine lv_aload_n hx hb dX4_compare_16 rfl (lv_at hl 1 rfl) ?_
  refine x_calliW (va_runV (As := []) (rest := [.ref (ad 130)]) ⟨hx, hb, hml, hown, hts⟩ (mc_pop l D y H.size ad (sI σ 115 n_2) (show 0 ≤ (n_2).toInt from by first | omega | decide) (show (n_2).toInt ≤ 64 from by first | omega | decide)) (cwV 0 hts g_mc_compare_0 rfl rfl rfl (by decide +kernel) ⟨Nat.le_of_ble_eq_true rfl, Nat.le_of_ble_eq_true rfl⟩) (x_preV (q := (RX4, TX4, 6)) hK hP hD (ci := 3) (q0 := 0) rfl mcw_o0) rfl rfl hl.1 rfl (lv_room (Nat.le_of_ble_eq_true rfl)) dX4_compare_17 ⟨Nat.le_of_ble_eq_true rfl, Nat.le_of_ble_eq_true rfl⟩) hP hD hS hA (fun r_4 u H locs hw hP hD hS => ?_)
  obtain ⟨n_5, rfl⟩ : ∃ z9, z9 = u := ⟨_, rfl⟩
  try dsimp only at hw
  have hP : va_P D vwCl (mcw y ad (sI (sI σ 115 n_2) 115 n_5)) H := hP
  have hD : va_D A (mcw y ad (sI (sI σ 115 n_2) 115 n_5)) := hD
  replace hw : 0 ≤ n_5.toInt ∧ n_5.toInt ≤ 64 := hw
  have hPs : va_P D vwCl (tpw y ad (sI (sI σ 115 n_2) 115 n_5)) H := x_suP hP [2, 11, 12, 13, 14, 15] rfl
  have hDs : va_D A (tpw y ad (sI (sI σ 115 n_2) 115 n_5)) := x_suD hD [2, 11, 12, 13, 14, 15] rfl (by decide)
  refine x_calllS (b1 := fun (u : Unit) => (mcw y ad (sI (sI σ 115 n_2) 115 n_5))) [2, 11, 12, 13, 14, 15] (va_runV (As := [.int r_4]) (rest := []) ⟨hx, hb, hml, hown, hts⟩ (ka_valueAt l D y H.size ad (sI (sI σ 115 n_2) 115 n_5) r_4 (show 0 ≤ ((σ.1 139)).toInt from by first | omega | decide) (show ((σ.1 139)).toInt ≤ 1359 from by first | omega | decide)) (cwV 1 hts g_mc_compare_1 rfl rfl rfl (by decide +kernel) ⟨Nat.le_of_ble_eq_true rfl, Nat.le_of_ble_eq_true rfl⟩) (x_preV (q := (RX8, TX8, 13)) hK hPs hDs (ci := 7) (q0 := 0) rfl tpw_o0) rfl rfl hl.1 rfl (lv_room (Nat.le_of_ble_eq_true rfl)) dX4_compare_20 ⟨Nat.le_of_ble_eq_true rfl, Nat.le_of_ble_eq_true rfl⟩) hP hD hS hA rfl (fun _ => rfl) (fun _ => rfl) (fun _ => rfl) (fun r_6 u H locs hw hP hD hS => ?_)
  try dsimp only at hw
  have hP : va_P D vwCl (mcw y ad (sI (sI σ 115 n_2) 115 n_5)) H := hP
  have hD : va_D A (mcw y ad (sI (sI σ 115 n_2) 115 n_5)) := hD
  refine lv_lstore (lv' := [(4, .long r_6), (2, .long r_3), (0, .ref (ad 110)), (1, .int x)]) hx hb dX4_compare_23 hl (by decide) rfl (fun ls hl => ?_)
  refine lv_aload_n hx hb dX4_compare_25 rfl (lv_at hl 2 rfl) ?_
  refine va_get (D := D) (ci := 3) (v := .ref (ad 130)) (C := RX4) (T := TX4) (N := 6) hx hb hts inX4 hown hK hP 0 mcw_o0 rfl 3 (by decide) fl24 (fun _ h9 => h9) rfl dX4_compare_26 ?_
  refine lv_lload hx hb dX4_compare_29 (lv_at hl 0 rfl) ?_
  refine lv_lload_n hx hb dX4_compare_31 rfl (lv_at hl 1 rfl) ?_
  have hPs : va_P D vwCl (tpw y ad (sI (sI σ 115 n_2) 115 n_5)) H := x_suP hP [2, 11, 12, 13, 14, 15] rfl
  have hDs : va_D A (tpw y ad (sI (sI σ 115 n_2) 115 n_5)) := x_suD hD [2, 11, 12, 13, 14, 15] rfl (by decide)
  refine x_callvS (b1 := fun (u : Int32 × Int64) => (mcw y ad (sJ (sI (sI (sI σ 115 n_2) 115 n_5) 142 u.1) 143 u.2))) [2, 11, 12, 13, 14, 15] (va_runV (As := [.long r_6, .long r_3]) (rest := []) ⟨hx, hb, hml, hown, hts⟩ (ka_meet l D y H.size ad (sI (sI σ 115 n_2) 115 n_5) r_6 r_3) (cwV 2 hts g_mc_compare_2 rfl rfl rfl (by decide +kernel) ⟨Nat.le_of_ble_eq_true rfl, Nat.le_of_ble_eq_true rfl⟩) (x_preV (q := (RX8, TX8, 13)) hK hPs hDs (ci := 7) (q0 := 0) rfl tpw_o0) rfl rfl hl.1 rfl (lv_room (Nat.le_of_ble_eq_true rfl)) dX4_compare_32 ⟨Nat.le_of_ble_eq_true rfl, Nat.le_of_ble_eq_true rfl⟩) hP hD hS hA rfl (fun _ => rfl) (fun _ => rfl) (fun _ => rfl) (fun u H locs hw hP hD hS => ?_)
  obtain ⟨n_7, j_8⟩ := u
  try dsimp only at hw
  have hP : va_P D vwCl (mcw y ad (sJ (sI (sI (sI σ 115 n_2) 115 n_5) 142 n_7) 143 j_8)) H := hP
  have hD : va_D A (mcw y ad (sJ (sI (sI (sI σ 115 n_2) 115 n_5) 142 n_7) 143 j_8)) := hD
  replace hw : True := hw
  refine lv_aload_n hx hb dX4_compare_35 rfl (lv_at hl 2 rfl) ?_
  refine va_get (D := D) (ci := 3) (v := .ref (ad 130)) (C := RX4) (T := TX4) (N := 6) hx hb hts inX4 hown hK hP 0 mcw_o0 rfl 3 (by decide) fl24 (fun _ h9 => h9) rfl dX4_compare_36 ?_
  refine lv_dup hx hb dX4_compare_39 rfl ?_
  refine va_get (D := D) (ci := 7) (v := .int (σ.1 140)) (C := RX8) (T := TX8) (N := 13) hx hb hts inX8 hown hK hP 2 mcw_o2 rfl 9 (by decide) fl107 (fun _ h9 => h9) rfl dX4_compare_40 ?_
  refine lv_iconst (v := 1) hx hb dX4_compare_43 (by decide) ?_
  refine lv_iadd hx hb dX4_compare_44 ?_
  refine lv_topi (fun i_9 ei_9 => ?_)
  refine va_put (D := D) (ci := 7) (v := .int i_9) (ty := .int) (C := RX8) (T := TX8) (N := 13) hx hb hts inX8 tyX8 tyX8_ok nmX8 hown hK hP hD hS 2 mcw_o2 rfl 9 (by decide) fl107 (fun _ h9 => h9) rfl (by decide +kernel) rfl rfl (Nat.le_of_ble_eq_true rfl) dX4_compare_45 (fun H locs hP hD hS => ?_)
  have hP : va_P D vwCl (mcw y ad (sI (sJ (sI (sI (sI σ 115 n_2) 115 n_5) 142 n_7) 143 j_8) 140 i_9)) H := x_trP hP mcw_p2_9
  have hD : va_D A (mcw y ad (sI (sJ (sI (sI (sI σ 115 n_2) 115 n_5) 142 n_7) 143 j_8) 140 i_9)) := x_trD hD mcw_p2_9
  refine lv_lload hx hb dX4_compare_48 (lv_at hl 0 rfl) ?_
  refine lv_lload_n hx hb dX4_compare_50 rfl (lv_at hl 1 rfl) ?_
  refine x_calliN (va_runS (As := [.long r_6, .long r_3]) (rest := []) ⟨hx, hb, hml, hown, hts⟩ (k_compare l D y H.size r_6 r_3) (va_cwS 2 hts g_mc_compare_3 rfl rfl rfl (by decide +kernel) ⟨Nat.le_of_ble_eq_true rfl, Nat.le_of_ble_eq_true rfl⟩) (x_preS hK (x_nilP D H) (x_nilD A)) rfl rfl hl.1 rfl (lv_room (Nat.le_of_ble_eq_true rfl)) dX4_compare_51 ⟨Nat.le_of_ble_eq_true rfl, Nat.le_of_ble_eq_true rfl⟩) hP hD hS hA (fun r_10 u H locs hw hP hD hS => ?_)
  try dsimp only at hw
  refine lv_istore (lv' := [(6, .int r_10), (4, .long r_6), (2, .long r_3), (0, .ref (ad 110)), (1, .int x)]) hx hb dX4_compare_54 hl (by decide) rfl (fun ls hl => ?_)
  refine lv_iload_n hx hb dX4_compare_56 rfl (lv_at hl 4 rfl) ?_
  rcases (show x = 13 ∨ x = 14 ∨ (¬ x = 13 ∧ ¬ x = 14) by simp only [x_eq, Int32.reduceToInt]; omega) with rfl | rfl | ⟨g_11_0, g_11_1⟩
  · refine lv_lookup (tgt := 84) (off := 27) hx hb dX4_compare_57 (by decide) (by decide) (by decide) ?_
    refine lv_aload_n hx hb dX4_compare_84 rfl (lv_at hl 3 rfl) ?_
    refine lv_iload hx hb dX4_compare_85 (lv_at hl 0 rfl) ?_
    refine lv_if_ge (tgt := 94) hx hb dX4_compare_87 (by decide) (fun c_12 => ?_) (fun c_12 => ?_)
    · have kc_12 : r_10.toInt ≥ 0 := by have h9 := c_12; simp only [ge_iff_le, gt_iff_lt, x_lt, x_le, x_eq, ne_eq, Int32.not_lt, Int32.not_le] at h9; simp only [Int32.reduceToInt] at h9; omega
      refine lv_iconst (v := 0) hx hb dX4_compare_94 (by decide) ?_
      refine x_callvW (va_runV (As := [.int 0]) (rest := []) ⟨hx, hb, hml, hown, hts⟩ (mc_pushFact l D y H.size ad (sI (sJ (sI (sI (sI σ 115 n_2) 115 n_5) 142 n_7) 143 j_8) 140 i_9) 0 (show 0 ≤ (n_5).toInt from by first | omega | decide) (show (n_5).toInt ≤ 64 from by first | omega | decide)) (cwV 1 hts g_mc_compare_4 rfl rfl rfl (by decide +kernel) ⟨Nat.le_of_ble_eq_true rfl, Nat.le_of_ble_eq_true rfl⟩) (x_preV (q := (RX4, TX4, 6)) hK hP hD (ci := 3) (q0 := 0) rfl mcw_o0) rfl rfl hl.1 rfl (lv_room (Nat.le_of_ble_eq_true rfl)) dX4_compare_95 ⟨Nat.le_of_ble_eq_true rfl, Nat.le_of_ble_eq_true rfl⟩) hP hD hS hA (fun u H locs hw hP hD hS => ?_)
      obtain ⟨f_13, n_14⟩ := u
      try dsimp only at hw
      have hP : va_P D vwCl (mcw y ad (sI (tI (sI (sJ (sI (sI (sI σ 115 n_2) 115 n_5) 142 n_7) 143 j_8) 140 i_9) 111 f_13) 115 n_14)) H := hP
      have hD : va_D A (mcw y ad (sI (tI (sI (sJ (sI (sI (sI σ 115 n_2) 115 n_5) 142 n_7) 143 j_8) 140 i_9) 111 f_13) 115 n_14)) := hD
      replace hw : 0 ≤ n_14.toInt ∧ n_14.toInt ≤ 64 := hw
      refine lv_goto (tgt := 132) hx hb dX4_compare_98 (by decide) ?_
      have hP : va_P D vwCl (mcw y ad (sI (sJ (sI (sI (tI (sI (sI (tJ (tI (tI (tI (sI (sI (tI (tI σ 111 f_13) 112 (σ.2.2.1 112)) 115 n_14) 116 (σ.1 116)) 132 (σ.2.2.1 132)) 133 (σ.2.2.1 133)) 134 (σ.2.2.1 134)) 131 (σ.2.2.2 131)) 139 (σ.1 139)) 140 i_9) 135 (σ.2.2.1 135)) 141 (σ.1 141)) 142 n_7) 143 j_8) 136 (σ.1 136))) H := hP
      have hD : va_D A (mcw y ad (sI (sJ (sI (sI (tI (sI (sI (tJ (tI (tI (tI (sI (sI (tI (tI σ 111 f_13) 112 (σ.2.2.1 112)) 115 n_14) 116 (σ.1 116)) 132 (σ.2.2.1 132)) 133 (σ.2.2.1 133)) 134 (σ.2.2.1 134)) 131 (σ.2.2.2 131)) 139 (σ.1 139)) 140 i_9) 135 (σ.2.2.1 135)) 141 (σ.1 141)) 142 n_7) 143 j_8) 136 (σ.1 136))) := hD
      exact x_vretW (u := (f_13, (σ.2.2.1 112), n_14, (σ.1 116), (σ.2.2.1 132), (σ.2.2.1 133), (σ.2.2.1 134), (σ.2.2.2 131), (σ.1 139), i_9, (σ.2.2.1 135), (σ.1 141), n_7, j_8, (σ.1 136))) hx hb hr hQ (by (try dsimp only); exact ⟨⟨by omega, by omega, by omega, by omega, by omega, by omega⟩, hB133, hB134, hB135⟩) hP hD hK hS dX4_compare_132 hlocks
    · have kc_12 : r_10.toInt < 0 := by have h9 := c_12; simp only [ge_iff_le, gt_iff_lt, x_lt, x_le, x_eq, ne_eq, Int32.not_lt, Int32.not_le] at h9; simp only [Int32.reduceToInt] at h9; omega
      refine lv_iconst (v := 1) hx hb dX4_compare_90 (by decide) ?_
      refine lv_goto (tgt := 95) hx hb dX4_compare_91 (by decide) ?_
      refine x_callvW (va_runV (As := [.int 1]) (rest := []) ⟨hx, hb, hml, hown, hts⟩ (mc_pushFact l D y H.size ad (sI (sJ (sI (sI (sI σ 115 n_2) 115 n_5) 142 n_7) 143 j_8) 140 i_9) 1 (show 0 ≤ (n_5).toInt from by first | omega | decide) (show (n_5).toInt ≤ 64 from by first | omega | decide)) (cwV 1 hts g_mc_compare_4 rfl rfl rfl (by decide +kernel) ⟨Nat.le_of_ble_eq_true rfl, Nat.le_of_ble_eq_true rfl⟩) (x_preV (q := (RX4, TX4, 6)) hK hP hD (ci := 3) (q0 := 0) rfl mcw_o0) rfl rfl hl.1 rfl (lv_room (Nat.le_of_ble_eq_true rfl)) dX4_compare_95 ⟨Nat.le_of_ble_eq_true rfl, Nat.le_of_ble_eq_true rfl⟩) hP hD hS hA (fun u H locs hw hP hD hS => ?_)
      obtain ⟨f_15, n_16⟩ := u
      try dsimp only at hw
      have hP : va_P D vwCl (mcw y ad (sI (tI (sI (sJ (sI (sI (sI σ 115 n_2) 115 n_5) 142 n_7) 143 j_8) 140 i_9) 111 f_15) 115 n_16)) H := hP
      have hD : va_D A (mcw y ad (sI (tI (sI (sJ (sI (sI (sI σ 115 n_2) 115 n_5) 142 n_7) 143 j_8) 140 i_9) 111 f_15) 115 n_16)) := hD
      replace hw : 0 ≤ n_16.toInt ∧ n_16.toInt ≤ 64 := hw
      refine lv_goto (tgt := 132) hx hb dX4_compare_98 (by decide) ?_
      have hP : va_P D vwCl (mcw y ad (sI (sJ (sI (sI (tI (sI (sI (tJ (tI (tI (tI (sI (sI (tI (tI σ 111 f_15) 112 (σ.2.2.1 112)) 115 n_16) 116 (σ.1 116)) 132 (σ.2.2.1 132)) 133 (σ.2.2.1 133)) 134 (σ.2.2.1 134)) 131 (σ.2.2.2 131)) 139 (σ.1 139)) 140 i_9) 135 (σ.2.2.1 135)) 141 (σ.1 141)) 142 n_7) 143 j_8) 136 (σ.1 136))) H := hP
      have hD : va_D A (mcw y ad (sI (sJ (sI (sI (tI (sI (sI (tJ (tI (tI (tI (sI (sI (tI (tI σ 111 f_15) 112 (σ.2.2.1 112)) 115 n_16) 116 (σ.1 116)) 132 (σ.2.2.1 132)) 133 (σ.2.2.1 133)) 134 (σ.2.2.1 134)) 131 (σ.2.2.2 131)) 139 (σ.1 139)) 140 i_9) 135 (σ.2.2.1 135)) 141 (σ.1 141)) 142 n_7) 143 j_8) 136 (σ.1 136))) := hD
      exact x_vretW (u := (f_15, (σ.2.2.1 112), n_16, (σ.1 116), (σ.2.2.1 132), (σ.2.2.1 133), (σ.2.2.1 134), (σ.2.2.2 131), (σ.1 139), i_9, (σ.2.2.1 135), (σ.1 141), n_7, j_8, (σ.1 136))) hx hb hr hQ (by (try dsimp only); exact ⟨⟨by omega, by omega, by omega, by omega, by omega, by omega⟩, hB133, hB134, hB135⟩) hP hD hK hS dX4_compare_132 hlocks
  · refine lv_lookup (tgt := 101) (off := 44) hx hb dX4_compare_57 (by decide) (by decide) (by decide) ?_
    refine lv_aload_n hx hb dX4_compare_101 rfl (lv_at hl 3 rfl) ?_
    refine lv_iload hx hb dX4_compare_102 (lv_at hl 0 rfl) ?_
    refine lv_if_le (tgt := 111) hx hb dX4_compare_104 (by decide) (fun c_17 => ?_) (fun c_17 => ?_)
    · have kc_17 : r_10.toInt ≤ 0 := by have h9 := c_17; simp only [ge_iff_le, gt_iff_lt, x_lt, x_le, x_eq, ne_eq, Int32.not_lt, Int32.not_le] at h9; simp only [Int32.reduceToInt] at h9; omega
      refine lv_iconst (v := 0) hx hb dX4_compare_111 (by decide) ?_
      refine x_callvW (va_runV (As := [.int 0]) (rest := []) ⟨hx, hb, hml, hown, hts⟩ (mc_pushFact l D y H.size ad (sI (sJ (sI (sI (sI σ 115 n_2) 115 n_5) 142 n_7) 143 j_8) 140 i_9) 0 (show 0 ≤ (n_5).toInt from by first | omega | decide) (show (n_5).toInt ≤ 64 from by first | omega | decide)) (cwV 1 hts g_mc_compare_4 rfl rfl rfl (by decide +kernel) ⟨Nat.le_of_ble_eq_true rfl, Nat.le_of_ble_eq_true rfl⟩) (x_preV (q := (RX4, TX4, 6)) hK hP hD (ci := 3) (q0 := 0) rfl mcw_o0) rfl rfl hl.1 rfl (lv_room (Nat.le_of_ble_eq_true rfl)) dX4_compare_112 ⟨Nat.le_of_ble_eq_true rfl, Nat.le_of_ble_eq_true rfl⟩) hP hD hS hA (fun u H locs hw hP hD hS => ?_)
      obtain ⟨f_18, n_19⟩ := u
      try dsimp only at hw
      have hP : va_P D vwCl (mcw y ad (sI (tI (sI (sJ (sI (sI (sI σ 115 n_2) 115 n_5) 142 n_7) 143 j_8) 140 i_9) 111 f_18) 115 n_19)) H := hP
      have hD : va_D A (mcw y ad (sI (tI (sI (sJ (sI (sI (sI σ 115 n_2) 115 n_5) 142 n_7) 143 j_8) 140 i_9) 111 f_18) 115 n_19)) := hD
      replace hw : 0 ≤ n_19.toInt ∧ n_19.toInt ≤ 64 := hw
      refine lv_goto (tgt := 132) hx hb dX4_compare_115 (by decide) ?_
      have hP : va_P D vwCl (mcw y ad (sI (sJ (sI (sI (tI (sI (sI (tJ (tI (tI (tI (sI (sI (tI (tI σ 111 f_18) 112 (σ.2.2.1 112)) 115 n_19) 116 (σ.1 116)) 132 (σ.2.2.1 132)) 133 (σ.2.2.1 133)) 134 (σ.2.2.1 134)) 131 (σ.2.2.2 131)) 139 (σ.1 139)) 140 i_9) 135 (σ.2.2.1 135)) 141 (σ.1 141)) 142 n_7) 143 j_8) 136 (σ.1 136))) H := hP
      have hD : va_D A (mcw y ad (sI (sJ (sI (sI (tI (sI (sI (tJ (tI (tI (tI (sI (sI (tI (tI σ 111 f_18) 112 (σ.2.2.1 112)) 115 n_19) 116 (σ.1 116)) 132 (σ.2.2.1 132)) 133 (σ.2.2.1 133)) 134 (σ.2.2.1 134)) 131 (σ.2.2.2 131)) 139 (σ.1 139)) 140 i_9) 135 (σ.2.2.1 135)) 141 (σ.1 141)) 142 n_7) 143 j_8) 136 (σ.1 136))) := hD
      exact x_vretW (u := (f_18, (σ.2.2.1 112), n_19, (σ.1 116), (σ.2.2.1 132), (σ.2.2.1 133), (σ.2.2.1 134), (σ.2.2.2 131), (σ.1 139), i_9, (σ.2.2.1 135), (σ.1 141), n_7, j_8, (σ.1 136))) hx hb hr hQ (by (try dsimp only); exact ⟨⟨by omega, by omega, by omega, by omega, by omega, by omega⟩, hB133, hB134, hB135⟩) hP hD hK hS dX4_compare_132 hlocks
    · have kc_17 : r_10.toInt > 0 := by have h9 := c_17; simp only [ge_iff_le, gt_iff_lt, x_lt, x_le, x_eq, ne_eq, Int32.not_lt, Int32.not_le] at h9; simp only [Int32.reduceToInt] at h9; omega
      refine lv_iconst (v := 1) hx hb dX4_compare_107 (by decide) ?_
      refine lv_goto (tgt := 112) hx hb dX4_compare_108 (by decide) ?_
      refine x_callvW (va_runV (As := [.int 1]) (rest := []) ⟨hx, hb, hml, hown, hts⟩ (mc_pushFact l D y H.size ad (sI (sJ (sI (sI (sI σ 115 n_2) 115 n_5) 142 n_7) 143 j_8) 140 i_9) 1 (show 0 ≤ (n_5).toInt from by first | omega | decide) (show (n_5).toInt ≤ 64 from by first | omega | decide)) (cwV 1 hts g_mc_compare_4 rfl rfl rfl (by decide +kernel) ⟨Nat.le_of_ble_eq_true rfl, Nat.le_of_ble_eq_true rfl⟩) (x_preV (q := (RX4, TX4, 6)) hK hP hD (ci := 3) (q0 := 0) rfl mcw_o0) rfl rfl hl.1 rfl (lv_room (Nat.le_of_ble_eq_true rfl)) dX4_compare_112 ⟨Nat.le_of_ble_eq_true rfl, Nat.le_of_ble_eq_true rfl⟩) hP hD hS hA (fun u H locs hw hP hD hS => ?_)
      obtain ⟨f_20, n_21⟩ := u
      try dsimp only at hw
      have hP : va_P D vwCl (mcw y ad (sI (tI (sI (sJ (sI (sI (sI σ 115 n_2) 115 n_5) 142 n_7) 143 j_8) 140 i_9) 111 f_20) 115 n_21)) H := hP
      have hD : va_D A (mcw y ad (sI (tI (sI (sJ (sI (sI (sI σ 115 n_2) 115 n_5) 142 n_7) 143 j_8) 140 i_9) 111 f_20) 115 n_21)) := hD
      replace hw : 0 ≤ n_21.toInt ∧ n_21.toInt ≤ 64 := hw
      refine lv_goto (tgt := 132) hx hb dX4_compare_115 (by decide) ?_
      have hP : va_P D vwCl (mcw y ad (sI (sJ (sI (sI (tI (sI (sI (tJ (tI (tI (tI (sI (sI (tI (tI σ 111 f_20) 112 (σ.2.2.1 112)) 115 n_21) 116 (σ.1 116)) 132 (σ.2.2.1 132)) 133 (σ.2.2.1 133)) 134 (σ.2.2.1 134)) 131 (σ.2.2.2 131)) 139 (σ.1 139)) 140 i_9) 135 (σ.2.2.1 135)) 141 (σ.1 141)) 142 n_7) 143 j_8) 136 (σ.1 136))) H := hP
      have hD : va_D A (mcw y ad (sI (sJ (sI (sI (tI (sI (sI (tJ (tI (tI (tI (sI (sI (tI (tI σ 111 f_20) 112 (σ.2.2.1 112)) 115 n_21) 116 (σ.1 116)) 132 (σ.2.2.1 132)) 133 (σ.2.2.1 133)) 134 (σ.2.2.1 134)) 131 (σ.2.2.2 131)) 139 (σ.1 139)) 140 i_9) 135 (σ.2.2.1 135)) 141 (σ.1 141)) 142 n_7) 143 j_8) 136 (σ.1 136))) := hD
      exact x_vretW (u := (f_20, (σ.2.2.1 112), n_21, (σ.1 116), (σ.2.2.1 132), (σ.2.2.1 133), (σ.2.2.1 134), (σ.2.2.2 131), (σ.1 139), i_9, (σ.2.2.1 135), (σ.1 141), n_7, j_8, (σ.1 136))) hx hb hr hQ (by (try dsimp only); exact ⟨⟨by omega, by omega, by omega, by omega, by omega, by omega⟩, hB133, hB134, hB135⟩) hP hD hK hS dX4_compare_132 hlocks
  · refine lv_lookup (tgt := 118) (off := 61) hx hb dX4_compare_57 (by decide) ((lv_osw g_11_0 rfl).trans ((lv_osw g_11_1 rfl).trans rfl)) (by decide) ?_
    refine lv_aload_n hx hb dX4_compare_118 rfl (lv_at hl 3 rfl) ?_
    refine lv_iload hx hb dX4_compare_119 (lv_at hl 0 rfl) ?_
    refine lv_if_ne (tgt := 128) hx hb dX4_compare_121 (by decide) (fun c_22 => ?_) (fun c_22 => ?_)
    · have kc_22 : r_10.toInt ≠ 0 := by have h9 := c_22; simp only [ge_iff_le, gt_iff_lt, x_lt, x_le, x_eq, ne_eq, Int32.not_lt, Int32.not_le] at h9; simp only [Int32.reduceToInt] at h9; omega
      refine lv_iconst (v := 0) hx hb dX4_compare_128 (by decide) ?_
      refine x_callvW (va_runV (As := [.int 0]) (rest := []) ⟨hx, hb, hml, hown, hts⟩ (mc_pushFact l D y H.size ad (sI (sJ (sI (sI (sI σ 115 n_2) 115 n_5) 142 n_7) 143 j_8) 140 i_9) 0 (show 0 ≤ (n_5).toInt from by first | omega | decide) (show (n_5).toInt ≤ 64 from by first | omega | decide)) (cwV 1 hts g_mc_compare_4 rfl rfl rfl (by decide +kernel) ⟨Nat.le_of_ble_eq_true rfl, Nat.le_of_ble_eq_true rfl⟩) (x_preV (q := (RX4, TX4, 6)) hK hP hD (ci := 3) (q0 := 0) rfl mcw_o0) rfl rfl hl.1 rfl (lv_room (Nat.le_of_ble_eq_true rfl)) dX4_compare_129 ⟨Nat.le_of_ble_eq_true rfl, Nat.le_of_ble_eq_true rfl⟩) hP hD hS hA (fun u H locs hw hP hD hS => ?_)
      obtain ⟨f_23, n_24⟩ := u
      try dsimp only at hw
      have hP : va_P D vwCl (mcw y ad (sI (tI (sI (sJ (sI (sI (sI σ 115 n_2) 115 n_5) 142 n_7) 143 j_8) 140 i_9) 111 f_23) 115 n_24)) H := hP
      have hD : va_D A (mcw y ad (sI (tI (sI (sJ (sI (sI (sI σ 115 n_2) 115 n_5) 142 n_7) 143 j_8) 140 i_9) 111 f_23) 115 n_24)) := hD
      replace hw : 0 ≤ n_24.toInt ∧ n_24.toInt ≤ 64 := hw
      have hP : va_P D vwCl (mcw y ad (sI (sJ (sI (sI (tI (sI (sI (tJ (tI (tI (tI (sI (sI (tI (tI σ 111 f_23) 112 (σ.2.2.1 112)) 115 n_24) 116 (σ.1 116)) 132 (σ.2.2.1 132)) 133 (σ.2.2.1 133)) 134 (σ.2.2.1 134)) 131 (σ.2.2.2 131)) 139 (σ.1 139)) 140 i_9) 135 (σ.2.2.1 135)) 141 (σ.1 141)) 142 n_7) 143 j_8) 136 (σ.1 136))) H := hP
      have hD : va_D A (mcw y ad (sI (sJ (sI (sI (tI (sI (sI (tJ (tI (tI (tI (sI (sI (tI (tI σ 111 f_23) 112 (σ.2.2.1 112)) 115 n_24) 116 (σ.1 116)) 132 (σ.2.2.1 132)) 133 (σ.2.2.1 133)) 134 (σ.2.2.1 134)) 131 (σ.2.2.2 131)) 139 (σ.1 139)) 140 i_9) 135 (σ.2.2.1 135)) 141 (σ.1 141)) 142 n_7) 143 j_8) 136 (σ.1 136))) := hD
      exact x_vretW (u := (f_23, (σ.2.2.1 112), n_24, (σ.1 116), (σ.2.2.1 132), (σ.2.2.1 133), (σ.2.2.1 134), (σ.2.2.2 131), (σ.1 139), i_9, (σ.2.2.1 135), (σ.1 141), n_7, j_8, (σ.1 136))) hx hb hr hQ (by (try dsimp only); exact ⟨⟨by omega, by omega, by omega, by omega, by omega, by omega⟩, hB133, hB134, hB135⟩) hP hD hK hS dX4_compare_132 hlocks
    · have kc_22 : r_10.toInt = 0 := by have h9 := c_22; simp only [ge_iff_le, gt_iff_lt, x_lt, x_le, x_eq, ne_eq, Int32.not_lt, Int32.not_le] at h9; simp only [Int32.reduceToInt] at h9; omega
      refine lv_iconst (v := 1) hx hb dX4_compare_124 (by decide) ?_
      refine lv_goto (tgt := 129) hx hb dX4_compare_125 (by decide) ?_
      refine x_callvW (va_runV (As := [.int 1]) (rest := []) ⟨hx, hb, hml, hown, hts⟩ (mc_pushFact l D y H.size ad (sI (sJ (sI (sI (sI σ 115 n_2) 115 n_5) 142 n_7) 143 j_8) 140 i_9) 1 (show 0 ≤ (n_5).toInt from by first | omega | decide) (show (n_5).toInt ≤ 64 from by first | omega | decide)) (cwV 1 hts g_mc_compare_4 rfl rfl rfl (by decide +kernel) ⟨Nat.le_of_ble_eq_true rfl, Nat.le_of_ble_eq_true rfl⟩) (x_preV (q := (RX4, TX4, 6)) hK hP hD (ci := 3) (q0 := 0) rfl mcw_o0) rfl rfl hl.1 rfl (lv_room (Nat.le_of_ble_eq_true rfl)) dX4_compare_129 ⟨Nat.le_of_ble_eq_true rfl, Nat.le_of_ble_eq_true rfl⟩) hP hD hS hA (fun u H locs hw hP hD hS => ?_)
      obtain ⟨f_25, n_26⟩ := u
      try dsimp only at hw
      have hP : va_P D vwCl (mcw y ad (sI (tI (sI (sJ (sI (sI (sI σ 115 n_2) 115 n_5) 142 n_7) 143 j_8) 140 i_9) 111 f_25) 115 n_26)) H := hP
      have hD : va_D A (mcw y ad (sI (tI (sI (sJ (sI (sI (sI σ 115 n_2) 115 n_5) 142 n_7) 143 j_8) 140 i_9) 111 f_25) 115 n_26)) := hD
      replace hw : 0 ≤ n_26.toInt ∧ n_26.toInt ≤ 64 := hw
      have hP : va_P D vwCl (mcw y ad (sI (sJ (sI (sI (tI (sI (sI (tJ (tI (tI (tI (sI (sI (tI (tI σ 111 f_25) 112 (σ.2.2.1 112)) 115 n_26) 116 (σ.1 116)) 132 (σ.2.2.1 132)) 133 (σ.2.2.1 133)) 134 (σ.2.2.1 134)) 131 (σ.2.2.2 131)) 139 (σ.1 139)) 140 i_9) 135 (σ.2.2.1 135)) 141 (σ.1 141)) 142 n_7) 143 j_8) 136 (σ.1 136))) H := hP
      have hD : va_D A (mcw y ad (sI (sJ (sI (sI (tI (sI (sI (tJ (tI (tI (tI (sI (sI (tI (tI σ 111 f_25) 112 (σ.2.2.1 112)) 115 n_26) 116 (σ.1 116)) 132 (σ.2.2.1 132)) 133 (σ.2.2.1 133)) 134 (σ.2.2.1 134)) 131 (σ.2.2.2 131)) 139 (σ.1 139)) 140 i_9) 135 (σ.2.2.1 135)) 141 (σ.1 141)) 142 n_7) 143 j_8) 136 (σ.1 136))) := hD
      exact x_vretW (u := (f_25, (σ.2.2.1 112), n_26, (σ.1 116), (σ.2.2.1 132), (σ.2.2.1 133), (σ.2.2.1 134), (σ.2.2.2 131), (σ.1 139), i_9, (σ.2.2.1 135), (σ.1 141), n_7, j_8, (σ.1 136))) hx hb hr hQ (by (try dsimp only); exact ⟨⟨by omega, by omega, by omega, by omega, by omega, by omega⟩, hB133, hB134, hB135⟩) hP hD hK hS dX4_compare_132 hlocks

def v_mc_step : List Cond := .code yX4_step cX4_step 2 none :: ([.fieldLink RX4 24 "SlopeRunner$Machine" "tape" "LSlopeRunner$Tape;", .fieldLink RX4 107 "SlopeRunner$Tape" "steps" "I", .fieldLink RX4 45 "SlopeRunner$Tape" "state" "I"] ++ ((wsV RX4 119 RX4 yX4_compare v_mc_compare) ++ ((wsV RX4 116 RX4 yX4_choose v_mc_choose) ++ ((wsV RX4 113 RX4 yX4_dropSign v_mc_dropSign) ++ ((wsV RX4 110 RX4 yX4_reckon v_mc_reckon) ++ (wsX40 ++ wsX80))))))
theorem g_mc_step_0 : GoodIn v_mc_step (wsV RX4 119 RX4 yX4_compare v_mc_compare) := goodIn_sub (fun w h => List.mem_cons_of_mem _ (List.mem_append_right _ (List.mem_append_left _ h))) (by decide +kernel)
theorem g_mc_step_1 : GoodIn v_mc_step (wsV RX4 116 RX4 yX4_choose v_mc_choose) := goodIn_sub (fun w h => List.mem_cons_of_mem _ (List.mem_append_right _ (List.mem_append_right _ (List.mem_append_left _ h)))) (by decide +kernel)
theorem g_mc_step_2 : GoodIn v_mc_step (wsV RX4 113 RX4 yX4_dropSign v_mc_dropSign) := goodIn_sub (fun w h => List.mem_cons_of_mem _ (List.mem_append_right _ (List.mem_append_right _ (List.mem_append_right _ (List.mem_append_left _ h))))) (by decide +kernel)
theorem g_mc_step_3 : GoodIn v_mc_step (wsV RX4 110 RX4 yX4_reckon v_mc_reckon) := goodIn_sub (fun w h => List.mem_cons_of_mem _ (List.mem_append_right _ (List.mem_append_right _ (List.mem_append_right _ (List.mem_append_right _ (List.mem_append_left _ h)))))) (by decide +kernel)
set_option maxHeartbeats 4000000 in
set_option maxRecDepth 100000 in
theorem mc_step (l : Launch) (D : va_G) (y : Nat → ClassId) (sz : Nat) (ad : Nat → Nat) (σ : OS) (x : Int32) (htop0 : 0 ≤ (σ.1 115).toInt) (htop1 : (σ.1 115).toInt ≤ 64) (hsize0 : 0 ≤ (σ.1 139).toInt) (hsize1 : (σ.1 139).toInt ≤ 1359) (hresults0 : 0 ≤ (σ.1 141).toInt) (hresults1 : (σ.1 141).toInt ≤ 12) (hinputs0 : 0 ≤ (σ.1 137).toInt) (hinputs1 : (σ.1 137).toInt ≤ 8) (hplength0 : 0 ≤ (σ.1 86).toInt) (hplength1 : (σ.1 86).toInt ≤ 700) (hprows0 : 0 ≤ (σ.1 82).toInt) (hprows1 : (σ.1 82).toInt ≤ 4)  (hB133 : bI (σ.2.2.1 133) 0 1358) (hB134 : bI (σ.2.2.1 134) 0 1358) (hB135 : bI (σ.2.2.1 135) 0 1358) : Met l yX4_step v_mc_step ({ frames := 5, cells := 0, slots := 0, locals := 148 } : Room) (va_Pc [.ref (ad 110), .int x] (xPre D (xT y) (mcw y ad σ) sz)) (va_Qv (fun (u : (Nat → Int32) × (Nat → Int32) × Int32 × Int32 × (Nat → Int32) × (Nat → Int32) × (Nat → Int32) × (Nat → Int64) × Int32 × Int32 × (Nat → Int32) × Int32 × Int32 × Int64 × Int32) => (0 ≤ u.2.2.1.toInt ∧ u.2.2.1.toInt ≤ 64 ∧ 0 ≤ u.2.2.2.2.2.2.2.2.1.toInt ∧ u.2.2.2.2.2.2.2.2.1.toInt ≤ 1359 ∧ 0 ≤ u.2.2.2.2.2.2.2.2.2.2.2.1.toInt ∧ u.2.2.2.2.2.2.2.2.2.2.2.1.toInt ≤ 12) ∧ bI u.2.2.2.2.2.1 0 1358 ∧ bI u.2.2.2.2.2.2.1 0 1358 ∧ bI u.2.2.2.2.2.2.2.2.2.2.1 0 1358) (fun (u : (Nat → Int32) × (Nat → Int32) × Int32 × Int32 × (Nat → Int32) × (Nat → Int32) × (Nat → Int32) × (Nat → Int64) × Int32 × Int32 × (Nat → Int32) × Int32 × Int32 × Int64 × Int32) => xB D (xT y) (va_A (mcw y ad σ) sz) (mcw y ad (sI (sJ (sI (sI (tI (sI (sI (tJ (tI (tI (tI (sI (sI (tI (tI σ 111 u.1) 112 u.2.1) 115 u.2.2.1) 116 u.2.2.2.1) 132 u.2.2.2.2.1) 133 u.2.2.2.2.2.1) 134 u.2.2.2.2.2.2.1) 131 u.2.2.2.2.2.2.2.1) 139 u.2.2.2.2.2.2.2.2.1) 140 u.2.2.2.2.2.2.2.2.2.1) 135 u.2.2.2.2.2.2.2.2.2.2.1) 141 u.2.2.2.2.2.2.2.2.2.2.2.1) 142 u.2.2.2.2.2.2.2.2.2.2.2.2.1) 143 u.2.2.2.2.2.2.2.2.2.2.2.2.2.1) 136 u.2.2.2.2.2.2.2.2.2.2.2.2.2.2))) (va_A (mcw y ad σ) sz)) 0 0 (va_A (mcw y ad σ) sz) := by
  refine x_metv (cc := cX4_step) (maxL := 2) (by decide) rfl (Nat.le_of_ble_eq_true rfl) ?_
  intro p e s m below meth c A H locs Q hx hb hml hown hts hr hlocks hmn hA hP hK hD hS ls hl hQ
  have hl : lv_has ls 2 [(0, .ref (ad 110)), (1, .int x)] := hl
  have fl24 := hts (.fieldLink RX4 24 "SlopeRunner$Machine" "tape" "LSlopeRunner$Tape;") (List.mem_of_getElem? (i := 1) rfl)
  have inX4 : ∀ w ∈ wsX40, w ∈ v_mc_step := (fun w h => List.mem_cons_of_mem _ (List.mem_append_right _ (List.mem_append_right _ (List.mem_append_right _ (List.mem_append_right _ (List.mem_append_right _ (List.mem_append_left _ h)))))))
  have fl107 := hts (.fieldLink RX4 107 "SlopeRunner$Tape" "steps" "I") (List.mem_of_getElem? (i := 2) rfl)
  have inX8 : ∀ w ∈ wsX80, w ∈ v_mc_step := (fun w h => List.mem_cons_of_mem _ (List.mem_append_right _ (List.mem_append_right _ (List.mem_append_right _ (List.mem_append_right _ (List.mem_append_right _ (List.mem_append_right _ h)))))))
  have kk_1000 : (1000 : Int32).toInt = 1000 := rfl
  have kk_9 : (9 : Int32).toInt = 9 := rfl
  have kk_10 : (10 : Int32).toInt = 10 := rfl
  have kk_12 : (12 : Int32).toInt = 12 := rfl
  have fl45 := hts (.fieldLink RX4 45 "SlopeRunner$Tape" "state" "I") (List.mem_of_getElem? (i := 3) rfl)
  refine lv_aload_n hx hb dX4_step_0 rfl (lv_at hl 0 rfl) ?_
  refine va_get (D := D) (ci := 3) (v := .ref (ad 130)) (C := RX4) (T := TX4) (N := 6) hx hb hts inX4 hown hK hP 0 mcw_o0 rfl 3 (by decide) fl24 (fun _ h9 => h9) rfl dX4_step_1 ?_
  refine va_get (D := D) (ci := 7) (v := .int (σ.1 140)) (C := RX8) (T := TX8) (N := 13) hx hb hts inX8 hown hK hP 2 mcw_o2 rfl 9 (by decide) fl107 (fun _ h9 => h9) rfl dX4_step_4 ?_
  refine lv_sipush (v := 1000) hx hb dX4_step_7 (by decide) ?_
  refine lv_icmp_lt (tgt := 24) hx hb dX4_step_10 (by decide) (fun c_1 => ?_) (fun c_1 => ?_)
  · have kc_1 : (σ.1 140).toInt < 1000 := by have h9 := c_1; simp only [ge_iff_le, gt_iff_lt, x_lt, x_le, x_eq, ne_eq, Int32.not_lt, Int32.not_le] at h9; simp only [Int32.reduceToInt] at h9; omega
    refine lv_iload_n hx hb dX4_step_24 rfl (lv_at hl 1 rfl) ?_
    refine lv_bipush (v := 9) hx hb dX4_step_25 (by decide) ?_
    refine lv_icmp_gt (tgt := 38) hx hb dX4_step_27 (by decide) (fun c_2 => ?_) (fun c_2 => ?_)
    · have kc_2 : x.toInt > 9 := by have h9 := c_2; simp only [ge_iff_le, gt_iff_lt, x_lt, x_le, x_eq, ne_eq, Int32.not_lt, Int32.not_le] at h9; simp only [Int32.reduceToInt] at h9; omega
      refine lv_iload_n hx hb dX4_step_38 rfl (lv_at hl 1 rfl) ?_
      refine lv_bipush (v := 10) hx hb dX4_step_39 (by decide) ?_
      refine lv_icmp_ne (tgt := 51) hx hb dX4_step_41 (by decide) (fun c_3 => ?_) (fun c_3 => ?_)
      · have kc_3 : x.toInt ≠ 10 := by have h9 := c_3; simp only [ge_iff_le, gt_iff_lt, x_lt, x_le, x_eq, ne_eq, Int32.not_lt, Int32.not_le] at h9; simp only [Int32.reduceToInt] at h9; omega
        refine lv_iload_n hx hb dX4_step_51 rfl (lv_at hl 1 rfl) ?_
        refine lv_bipush (v := 12) hx hb dX4_step_52 (by decide) ?_
        refine lv_icmp_gt (tgt := 65) hx hb dX4_step_54 (by decide) (fun c_4 => ?_) (fun c_4 => ?_)
        · have kc_4 : x.toInt > 12 := by have h9 := c_4; simp only [ge_iff_le, gt_iff_lt, x_lt, x_le, x_eq, ne_eq, Int32.not_lt, Int32.not_le] at h9; simp only [Int32.reduceToInt] at h9; omega
          refine lv_aload_n hx hb dX4_step_65 rfl (lv_at hl 0 rfl) ?_
          refine lv_iload_n hx hb dX4_step_66 rfl (lv_at hl 1 rfl) ?_
          refine x_callvW (va_runV (As := [.int x]) (rest := []) ⟨hx, hb, hml, hown, hts⟩ (mc_compare l D y H.size ad σ x (show 0 ≤ ((σ.1 115)).toInt from by first | omega | decide) (show ((σ.1 115)).toInt ≤ 64 from by first | omega | decide) (show 0 ≤ ((σ.1 139)).toInt from by first | omega | decide) (show ((σ.1 139)).toInt ≤ 1359 from by first | omega | decide) (show 0 ≤ ((σ.1 141)).toInt from by first | omega | decide) (show ((σ.1 141)).toInt ≤ 12 from by first | omega | decide) (show 0 ≤ ((σ.1 137)).toInt from by first | omega | decide) (show ((σ.1 137)).toInt ≤ 8 from by first | omega | decide) (show 0 ≤ ((σ.1 86)).toInt from by first | omega | decide) (show ((σ.1 86)).toInt ≤ 700 from by first | omega | decide) (show 0 ≤ ((σ.1 82)).toInt from by first | omega | decide) (show ((σ.1 82)).toInt ≤ 4 from by first | omega | decide) hB133 hB134 hB135) (cwV 1 hts g_mc_step_0 rfl rfl rfl (by decide +kernel) ⟨Nat.le_of_ble_eq_true rfl, Nat.le_of_ble_eq_true rfl⟩) (x_preV (q := (RX4, TX4, 6)) hK hP hD (ci := 3) (q0 := 0) rfl mcw_o0) rfl rfl hl.1 rfl (lv_room (Nat.le_of_ble_eq_true rfl)) dX4_step_67 ⟨Nat.le_of_ble_eq_true rfl, Nat.le_of_ble_eq_true rfl⟩) hP hD hS hA (fun u H locs hw hP hD hS => ?_)
          obtain ⟨f_5, f_6, n_7, n_8, f_9, f_10, f_11, f_12, n_13, n_14, f_15, n_16, n_17, j_18, n_19⟩ := u
          try dsimp only at hw
          have hP : va_P D vwCl (mcw y ad (sI (sJ (sI (sI (tI (sI (sI (tJ (tI (tI (tI (sI (sI (tI (tI σ 111 f_5) 112 f_6) 115 n_7) 116 n_8) 132 f_9) 133 f_10) 134 f_11) 131 f_12) 139 n_13) 140 n_14) 135 f_15) 141 n_16) 142 n_17) 143 j_18) 136 n_19)) H := hP
          have hD : va_D A (mcw y ad (sI (sJ (sI (sI (tI (sI (sI (tJ (tI (tI (tI (sI (sI (tI (tI σ 111 f_5) 112 f_6) 115 n_7) 116 n_8) 132 f_9) 133 f_10) 134 f_11) 131 f_12) 139 n_13) 140 n_14) 135 f_15) 141 n_16) 142 n_17) 143 j_18) 136 n_19)) := hD
          replace hw : (0 ≤ n_7.toInt ∧ n_7.toInt ≤ 64 ∧ 0 ≤ n_13.toInt ∧ n_13.toInt ≤ 1359 ∧ 0 ≤ n_16.toInt ∧ n_16.toInt ≤ 12) ∧ bI f_10 0 1358 ∧ bI f_11 0 1358 ∧ bI f_15 0 1358 := hw
          obtain ⟨hw, hg_20, hg_21, hg_22⟩ := hw
          exact x_vretW (u := (f_5, f_6, n_7, n_8, f_9, f_10, f_11, f_12, n_13, n_14, f_15, n_16, n_17, j_18, n_19)) hx hb hr hQ (by (try dsimp only); exact ⟨⟨by omega, by omega, by omega, by omega, by omega, by omega⟩, hg_20, hg_21, hg_22⟩) hP hD hK hS dX4_step_70 hlocks
        · have kc_4 : x.toInt ≤ 12 := by have h9 := c_4; simp only [ge_iff_le, gt_iff_lt, x_lt, x_le, x_eq, ne_eq, Int32.not_lt, Int32.not_le] at h9; simp only [Int32.reduceToInt] at h9; omega
          refine lv_aload_n hx hb dX4_step_57 rfl (lv_at hl 0 rfl) ?_
          refine lv_iload_n hx hb dX4_step_58 rfl (lv_at hl 1 rfl) ?_
          refine x_callvW (va_runV (As := [.int x]) (rest := []) ⟨hx, hb, hml, hown, hts⟩ (mc_choose l D y H.size ad σ x (show 0 ≤ ((σ.1 115)).toInt from by first | omega | decide) (show ((σ.1 115)).toInt ≤ 64 from by first | omega | decide) (show 0 ≤ ((σ.1 139)).toInt from by first | omega | decide) (show ((σ.1 139)).toInt ≤ 1359 from by first | omega | decide) (show 0 ≤ ((σ.1 141)).toInt from by first | omega | decide) (show ((σ.1 141)).toInt ≤ 12 from by first | omega | decide) (show 0 ≤ ((σ.1 137)).toInt from by first | omega | decide) (show ((σ.1 137)).toInt ≤ 8 from by first | omega | decide) (show 0 ≤ ((σ.1 86)).toInt from by first | omega | decide) (show ((σ.1 86)).toInt ≤ 700 from by first | omega | decide) (show 0 ≤ ((σ.1 82)).toInt from by first | omega | decide) (show ((σ.1 82)).toInt ≤ 4 from by first | omega | decide) hB133 hB134 hB135) (cwV 1 hts g_mc_step_1 rfl rfl rfl (by decide +kernel) ⟨Nat.le_of_ble_eq_true rfl, Nat.le_of_ble_eq_true rfl⟩) (x_preV (q := (RX4, TX4, 6)) hK hP hD (ci := 3) (q0 := 0) rfl mcw_o0) rfl rfl hl.1 rfl (lv_room (Nat.le_of_ble_eq_true rfl)) dX4_step_59 ⟨Nat.le_of_ble_eq_true rfl, Nat.le_of_ble_eq_true rfl⟩) hP hD hS hA (fun u H locs hw hP hD hS => ?_)
          obtain ⟨f_23, f_24, n_25, n_26, f_27, f_28, f_29, f_30, n_31, n_32, f_33, n_34, n_35, j_36, n_37⟩ := u
          try dsimp only at hw
          have hP : va_P D vwCl (mcw y ad (sI (sJ (sI (sI (tI (sI (sI (tJ (tI (tI (tI (sI (sI (tI (tI σ 111 f_23) 112 f_24) 115 n_25) 116 n_26) 132 f_27) 133 f_28) 134 f_29) 131 f_30) 139 n_31) 140 n_32) 135 f_33) 141 n_34) 142 n_35) 143 j_36) 136 n_37)) H := hP
          have hD : va_D A (mcw y ad (sI (sJ (sI (sI (tI (sI (sI (tJ (tI (tI (tI (sI (sI (tI (tI σ 111 f_23) 112 f_24) 115 n_25) 116 n_26) 132 f_27) 133 f_28) 134 f_29) 131 f_30) 139 n_31) 140 n_32) 135 f_33) 141 n_34) 142 n_35) 143 j_36) 136 n_37)) := hD
          replace hw : (0 ≤ n_25.toInt ∧ n_25.toInt ≤ 64 ∧ 0 ≤ n_31.toInt ∧ n_31.toInt ≤ 1359 ∧ 0 ≤ n_34.toInt ∧ n_34.toInt ≤ 12) ∧ bI f_28 0 1358 ∧ bI f_29 0 1358 ∧ bI f_33 0 1358 := hw
          obtain ⟨hw, hg_38, hg_39, hg_40⟩ := hw
          refine lv_goto (tgt := 70) hx hb dX4_step_62 (by decide) ?_
          exact x_vretW (u := (f_23, f_24, n_25, n_26, f_27, f_28, f_29, f_30, n_31, n_32, f_33, n_34, n_35, j_36, n_37)) hx hb hr hQ (by (try dsimp only); exact ⟨⟨by omega, by omega, by omega, by omega, by omega, by omega⟩, hg_38, hg_39, hg_40⟩) hP hD hK hS dX4_step_70 hlocks
      · have kc_3 : x.toInt = 10 := by have h9 := c_3; simp only [ge_iff_le, gt_iff_lt, x_lt, x_le, x_eq, ne_eq, Int32.not_lt, Int32.not_le] at h9; simp only [Int32.reduceToInt] at h9; omega
        refine lv_aload_n hx hb dX4_step_44 rfl (lv_at hl 0 rfl) ?_
        refine x_callvW (va_runV (As := []) (rest := []) ⟨hx, hb, hml, hown, hts⟩ (mc_dropSign l D y H.size ad σ (show 0 ≤ ((σ.1 115)).toInt from by first | omega | decide) (show ((σ.1 115)).toInt ≤ 64 from by first | omega | decide) (show 0 ≤ ((σ.1 139)).toInt from by first | omega | decide) (show ((σ.1 139)).toInt ≤ 1359 from by first | omega | decide) (show 0 ≤ ((σ.1 141)).toInt from by first | omega | decide) (show ((σ.1 141)).toInt ≤ 12 from by first | omega | decide) (show 0 ≤ ((σ.1 137)).toInt from by first | omega | decide) (show ((σ.1 137)).toInt ≤ 8 from by first | omega | decide) (show 0 ≤ ((σ.1 86)).toInt from by first | omega | decide) (show ((σ.1 86)).toInt ≤ 700 from by first | omega | decide) (show 0 ≤ ((σ.1 82)).toInt from by first | omega | decide) (show ((σ.1 82)).toInt ≤ 4 from by first | omega | decide) hB133 hB134 hB135) (cwV 0 hts g_mc_step_2 rfl rfl rfl (by decide +kernel) ⟨Nat.le_of_ble_eq_true rfl, Nat.le_of_ble_eq_true rfl⟩) (x_preV (q := (RX4, TX4, 6)) hK hP hD (ci := 3) (q0 := 0) rfl mcw_o0) rfl rfl hl.1 rfl (lv_room (Nat.le_of_ble_eq_true rfl)) dX4_step_45 ⟨Nat.le_of_ble_eq_true rfl, Nat.le_of_ble_eq_true rfl⟩) hP hD hS hA (fun u H locs hw hP hD hS => ?_)
        obtain ⟨f_41, f_42, n_43, n_44, f_45, f_46, f_47, f_48, n_49, n_50, f_51, n_52, n_53, j_54, n_55⟩ := u
        try dsimp only at hw
        have hP : va_P D vwCl (mcw y ad (sI (sJ (sI (sI (tI (sI (sI (tJ (tI (tI (tI (sI (sI (tI (tI σ 111 f_41) 112 f_42) 115 n_43) 116 n_44) 132 f_45) 133 f_46) 134 f_47) 131 f_48) 139 n_49) 140 n_50) 135 f_51) 141 n_52) 142 n_53) 143 j_54) 136 n_55)) H := hP
        have hD : va_D A (mcw y ad (sI (sJ (sI (sI (tI (sI (sI (tJ (tI (tI (tI (sI (sI (tI (tI σ 111 f_41) 112 f_42) 115 n_43) 116 n_44) 132 f_45) 133 f_46) 134 f_47) 131 f_48) 139 n_49) 140 n_50) 135 f_51) 141 n_52) 142 n_53) 143 j_54) 136 n_55)) := hD
        replace hw : (0 ≤ n_43.toInt ∧ n_43.toInt ≤ 64 ∧ 0 ≤ n_49.toInt ∧ n_49.toInt ≤ 1359 ∧ 0 ≤ n_52.toInt ∧ n_52.toInt ≤ 12) ∧ bI f_46 0 1358 ∧ bI f_47 0 1358 ∧ bI f_51 0 1358 := hw
        obtain ⟨hw, hg_56, hg_57, hg_58⟩ := hw
        refine lv_goto (tgt := 70) hx hb dX4_step_48 (by decide) ?_
        exact x_vretW (u := (f_41, f_42, n_43, n_44, f_45, f_46, f_47, f_48, n_49, n_50, f_51, n_52, n_53, j_54, n_55)) hx hb hr hQ (by (try dsimp only); exact ⟨⟨by omega, by omega, by omega, by omega, by omega, by omega⟩, hg_56, hg_57, hg_58⟩) hP hD hK hS dX4_step_70 hlocks
    · have kc_2 : x.toInt ≤ 9 := by have h9 := c_2; simp only [ge_iff_le, gt_iff_lt, x_lt, x_le, x_eq, ne_eq, Int32.not_lt, Int32.not_le] at h9; simp only [Int32.reduceToInt] at h9; omega
      refine lv_aload_n hx hb dX4_step_30 rfl (lv_at hl 0 rfl) ?_
      refine lv_iload_n hx hb dX4_step_31 rfl (lv_at hl 1 rfl) ?_
      refine x_callvW (va_runV (As := [.int x]) (rest := []) ⟨hx, hb, hml, hown, hts⟩ (mc_reckon l D y H.size ad σ x (show 0 ≤ ((σ.1 115)).toInt from by first | omega | decide) (show ((σ.1 115)).toInt ≤ 64 from by first | omega | decide) (show 0 ≤ ((σ.1 139)).toInt from by first | omega | decide) (show ((σ.1 139)).toInt ≤ 1359 from by first | omega | decide) (show 0 ≤ ((σ.1 141)).toInt from by first | omega | decide) (show ((σ.1 141)).toInt ≤ 12 from by first | omega | decide) (show 0 ≤ ((σ.1 137)).toInt from by first | omega | decide) (show ((σ.1 137)).toInt ≤ 8 from by first | omega | decide) (show 0 ≤ ((σ.1 86)).toInt from by first | omega | decide) (show ((σ.1 86)).toInt ≤ 700 from by first | omega | decide) (show 0 ≤ ((σ.1 82)).toInt from by first | omega | decide) (show ((σ.1 82)).toInt ≤ 4 from by first | omega | decide) hB133 hB134 hB135) (cwV 1 hts g_mc_step_3 rfl rfl rfl (by decide +kernel) ⟨Nat.le_of_ble_eq_true rfl, Nat.le_of_ble_eq_true rfl⟩) (x_preV (q := (RX4, TX4, 6)) hK hP hD (ci := 3) (q0 := 0) rfl mcw_o0) rfl rfl hl.1 rfl (lv_room (Nat.le_of_ble_eq_true rfl)) dX4_step_32 ⟨Nat.le_of_ble_eq_true rfl, Nat.le_of_ble_eq_true rfl⟩) hP hD hS hA (fun u H locs hw hP hD hS => ?_)
      obtain ⟨f_59, f_60, n_61, n_62, f_63, f_64, f_65, f_66, n_67, n_68, f_69, n_70, n_71, j_72, n_73⟩ := u
      try dsimp only at hw
      have hP : va_P D vwCl (mcw y ad (sI (sJ (sI (sI (tI (sI (sI (tJ (tI (tI (tI (sI (sI (tI (tI σ 111 f_59) 112 f_60) 115 n_61) 116 n_62) 132 f_63) 133 f_64) 134 f_65) 131 f_66) 139 n_67) 140 n_68) 135 f_69) 141 n_70) 142 n_71) 143 j_72) 136 n_73)) H := hP
      have hD : va_D A (mcw y ad (sI (sJ (sI (sI (tI (sI (sI (tJ (tI (tI (tI (sI (sI (tI (tI σ 111 f_59) 112 f_60) 115 n_61) 116 n_62) 132 f_63) 133 f_64) 134 f_65) 131 f_66) 139 n_67) 140 n_68) 135 f_69) 141 n_70) 142 n_71) 143 j_72) 136 n_73)) := hD
      replace hw : (0 ≤ n_61.toInt ∧ n_61.toInt ≤ 64 ∧ 0 ≤ n_67.toInt ∧ n_67.toInt ≤ 1359 ∧ 0 ≤ n_70.toInt ∧ n_70.toInt ≤ 12) ∧ bI f_64 0 1358 ∧ bI f_65 0 1358 ∧ bI f_69 0 1358 := hw
      obtain ⟨hw, hg_74, hg_75, hg_76⟩ := hw
      refine lv_goto (tgt := 70) hx hb dX4_step_35 (by decide) ?_
      exact x_vretW (u := (f_59, f_60, n_61, n_62, f_63, f_64, f_65, f_66, n_67, n_68, f_69, n_70, n_71, j_72, n_73)) hx hb hr hQ (by (try dsimp only); exact ⟨⟨by omega, by omega, by omega, by omega, by omega, by omega⟩, hg_74, hg_75, hg_76⟩) hP hD hK hS dX4_step_70 hlocks
  · have kc_1 : (σ.1 140).toInt ≥ 1000 := by have h9 := c_1; simp only [ge_iff_le, gt_iff_lt, x_lt, x_le, x_eq, ne_eq, Int32.not_lt, Int32.not_le] at h9; simp only [Int32.reduceToInt] at h9; omega
    refine lv_aload_n hx hb dX4_step_13 rfl (lv_at hl 0 rfl) ?_
    refine va_get (D := D) (ci := 3) (v := .ref (ad 130)) (C := RX4) (T := TX4) (N := 6) hx hb hts inX4 hown hK hP 0 mcw_o0 rfl 3 (by decide) fl24 (fun _ h9 => h9) rfl dX4_step_14 ?_
    refine lv_iconst (v := 2) hx hb dX4_step_17 (by decide) ?_
    refine va_put (D := D) (ci := 7) (v := .int 2) (ty := .int) (C := RX8) (T := TX8) (N := 13) hx hb hts inX8 tyX8 tyX8_ok nmX8 hown hK hP hD hS 2 mcw_o2 rfl 5 (by decide) fl45 (fun _ h9 => h9) rfl (by decide +kernel) rfl rfl (Nat.le_of_ble_eq_true rfl) dX4_step_18 (fun H locs hP hD hS => ?_)
    have hP : va_P D vwCl (mcw y ad (sI σ 136 2)) H := x_trP hP mcw_p2_5
    have hD : va_D A (mcw y ad (sI σ 136 2)) := x_trD hD mcw_p2_5
    refine lv_goto (tgt := 70) hx hb dX4_step_21 (by decide) ?_
    have hP : va_P D vwCl (mcw y ad (sI (sJ (sI (sI (tI (sI (sI (tJ (tI (tI (tI (sI (sI (tI (tI σ 111 (σ.2.2.1 111)) 112 (σ.2.2.1 112)) 115 (σ.1 115)) 116 (σ.1 116)) 132 (σ.2.2.1 132)) 133 (σ.2.2.1 133)) 134 (σ.2.2.1 134)) 131 (σ.2.2.2 131)) 139 (σ.1 139)) 140 (σ.1 140)) 135 (σ.2.2.1 135)) 141 (σ.1 141)) 142 (σ.1 142)) 143 (σ.2.1 143)) 136 2)) H := hP
    have hD : va_D A (mcw y ad (sI (sJ (sI (sI (tI (sI (sI (tJ (tI (tI (tI (sI (sI (tI (tI σ 111 (σ.2.2.1 111)) 112 (σ.2.2.1 112)) 115 (σ.1 115)) 116 (σ.1 116)) 132 (σ.2.2.1 132)) 133 (σ.2.2.1 133)) 134 (σ.2.2.1 134)) 131 (σ.2.2.2 131)) 139 (σ.1 139)) 140 (σ.1 140)) 135 (σ.2.2.1 135)) 141 (σ.1 141)) 142 (σ.1 142)) 143 (σ.2.1 143)) 136 2)) := hD
    exact x_vretW (u := ((σ.2.2.1 111), (σ.2.2.1 112), (σ.1 115), (σ.1 116), (σ.2.2.1 132), (σ.2.2.1 133), (σ.2.2.1 134), (σ.2.2.2 131), (σ.1 139), (σ.1 140), (σ.2.2.1 135), (σ.1 141), (σ.1 142), (σ.2.1 143), 2)) hx hb hr hQ (by (try dsimp only); exact ⟨⟨by omega, by omega, by omega, by omega, by omega, by omega⟩, hB133, hB134, hB135⟩) hP hD hK hS dX4_step_70 hlocks

def v_mc_moveData : List Cond := .code yX4_moveData cX4_moveData 3 none :: ([.fieldLink RX4 24 "SlopeRunner$Machine" "tape" "LSlopeRunner$Tape;", .fieldLink RX4 45 "SlopeRunner$Tape" "state" "I"] ++ ((wsV RX4 66 RX8 yX8_numberAt v_ka_numberAtX) ++ ((wsV RX4 69 RX4 yX4_push v_mc_push) ++ ((wsV RX4 72 RX4 yX4_load v_mc_load) ++ ((wsV RX4 75 RX4 yX4_slotInRow v_mc_slotInRow) ++ ((wsV RX4 78 RX4 yX4_store v_mc_store) ++ ((wsV RX4 81 RX4 yX4_pop v_mc_pop) ++ ((wsV RX4 84 RX8 yX8_giveOut v_ka_giveOut) ++ (wsX40 ++ wsX80)))))))))
theorem g_mc_moveData_0 : GoodIn v_mc_moveData (wsV RX4 66 RX8 yX8_numberAt v_ka_numberAtX) := goodIn_sub (fun w h => List.mem_cons_of_mem _ (List.mem_append_right _ (List.mem_append_left _ h))) (by decide +kernel)
theorem g_mc_moveData_1 : GoodIn v_mc_moveData (wsV RX4 69 RX4 yX4_push v_mc_push) := goodIn_sub (fun w h => List.mem_cons_of_mem _ (List.mem_append_right _ (List.mem_append_right _ (List.mem_append_left _ h)))) (by decide +kernel)
theorem g_mc_moveData_2 : GoodIn v_mc_moveData (wsV RX4 72 RX4 yX4_load v_mc_load) := goodIn_sub (fun w h => List.mem_cons_of_mem _ (List.mem_append_right _ (List.mem_append_right _ (List.mem_append_right _ (List.mem_append_left _ h))))) (by decide +kernel)
theorem g_mc_moveData_3 : GoodIn v_mc_moveData (wsV RX4 75 RX4 yX4_slotInRow v_mc_slotInRow) := goodIn_sub (fun w h => List.mem_cons_of_mem _ (List.mem_append_right _ (List.mem_append_right _ (List.mem_append_right _ (List.mem_append_right _ (List.mem_append_left _ h)))))) (by decide +kernel)
theorem g_mc_moveData_4 : GoodIn v_mc_moveData (wsV RX4 78 RX4 yX4_store v_mc_store) := goodIn_sub (fun w h => List.mem_cons_of_mem _ (List.mem_append_right _ (List.mem_append_right _ (List.mem_append_right _ (List.mem_append_right _ (List.mem_append_right _ (List.mem_append_left _ h))))))) (by decide +kernel)
theorem g_mc_moveData_5 : GoodIn v_mc_moveData (wsV RX4 81 RX4 yX4_pop v_mc_pop) := goodIn_sub (fun w h => List.mem_cons_of_mem _ (List.mem_append_right _ (List.mem_append_right _ (List.mem_append_right _ (List.mem_append_right _ (List.mem_append_right _ (List.mem_append_right _ (List.mem_append_left _ h)))))))) (by decide +kernel)
theorem g_mc_moveData_6 : GoodIn v_mc_moveData (wsV RX4 84 RX8 yX8_giveOut v_ka_giveOut) := goodIn_sub (fun w h => List.mem_cons_of_mem _ (List.mem_append_right _ (List.mem_append_right _ (List.mem_append_right _ (List.mem_append_right _ (List.mem_append_right _ (List.mem_append_right _ (List.mem_append_right _ (List.mem_append_left _ h))))))))) (by decide +kernel)
set_option maxHeartbeats 4000000 in
set_option maxRecDepth 100000 in
theorem mc_moveData (l : Launch) (D : va_G) (y : Nat → ClassId) (sz : Nat) (ad : Nat → Nat) (σ : OS) (x z : Int32) (htop0 : 0 ≤ (σ.1 115).toInt) (htop1 : (σ.1 115).toInt ≤ 64) (hsize0 : 0 ≤ (σ.1 139).toInt) (hsize1 : (σ.1 139).toInt ≤ 1359) (hresults0 : 0 ≤ (σ.1 141).toInt) (hresults1 : (σ.1 141).toInt ≤ 12) (hinputs0 : 0 ≤ (σ.1 137).toInt) (hinputs1 : (σ.1 137).toInt ≤ 8) (hplength0 : 0 ≤ (σ.1 86).toInt) (hplength1 : (σ.1 86).toInt ≤ 700) (hprows0 : 0 ≤ (σ.1 82).toInt) (hprows1 : (σ.1 82).toInt ≤ 4)  (hB133 : bI (σ.2.2.1 133) 0 1358) (hB134 : bI (σ.2.2.1 134) 0 1358) (hB135 : bI (σ.2.2.1 135) 0 1358) : Met l yX4_moveData v_mc_moveData ({ frames := 3, cells := 0, slots := 0, locals := 67 } : Room) (va_Pc [.ref (ad 110), .int x, .int z] (xPre D (xT y) (mcw y ad σ) sz)) (va_Qv (fun (u : (Nat → Int32) × (Nat → Int32) × Int32 × Int32 × (Nat → Int32) × (Nat → Int32) × (Nat → Int32) × (Nat → Int64) × Int32 × Int32 × (Nat → Int32) × Int32 × Int32 × Int64 × Int32) => (0 ≤ u.2.2.1.toInt ∧ u.2.2.1.toInt ≤ 64 ∧ 0 ≤ u.2.2.2.2.2.2.2.2.1.toInt ∧ u.2.2.2.2.2.2.2.2.1.toInt ≤ 1359 ∧ 0 ≤ u.2.2.2.2.2.2.2.2.2.2.2.1.toInt ∧ u.2.2.2.2.2.2.2.2.2.2.2.1.toInt ≤ 12) ∧ bI u.2.2.2.2.2.1 0 1358 ∧ bI u.2.2.2.2.2.2.1 0 1358 ∧ bI u.2.2.2.2.2.2.2.2.2.2.1 0 1358) (fun (u : (Nat → Int32) × (Nat → Int32) × Int32 × Int32 × (Nat → Int32) × (Nat → Int32) × (Nat → Int32) × (Nat → Int64) × Int32 × Int32 × (Nat → Int32) × Int32 × Int32 × Int64 × Int32) => xB D (xT y) (va_A (mcw y ad σ) sz) (mcw y ad (sI (sJ (sI (sI (tI (sI (sI (tJ (tI (tI (tI (sI (sI (tI (tI σ 111 u.1) 112 u.2.1) 115 u.2.2.1) 116 u.2.2.2.1) 132 u.2.2.2.2.1) 133 u.2.2.2.2.2.1) 134 u.2.2.2.2.2.2.1) 131 u.2.2.2.2.2.2.2.1) 139 u.2.2.2.2.2.2.2.2.1) 140 u.2.2.2.2.2.2.2.2.2.1) 135 u.2.2.2.2.2.2.2.2.2.2.1) 141 u.2.2.2.2.2.2.2.2.2.2.2.1) 142 u.2.2.2.2.2.2.2.2.2.2.2.2.1) 143 u.2.2.2.2.2.2.2.2.2.2.2.2.2.1) 136 u.2.2.2.2.2.2.2.2.2.2.2.2.2.2))) (va_A (mcw y ad σ) sz)) 0 0 (va_A (mcw y ad σ) sz) := by
  refine x_metv (cc := cX4_moveData) (maxL := 3) (by decide) rfl (Nat.le_of_ble_eq_true rfl) ?_
  intro p e s m below meth c A H locs Q hx hb hml hown hts hr hlocks hmn hA hP hK hD hS ls hl hQ
  have hl : lv_has ls 3 [(0, .ref (ad 110)), (1, .int x), (2, .int z)] := hl
  have fl24 := hts (.fieldLink RX4 24 "SlopeRunner$Machine" "tape" "LSlopeRunner$Tape;") (List.mem_of_getElem? (i := 1) rfl)
  have inX4 : ∀ w ∈ wsX40, w ∈ v_mc_moveData := (fun w h => List.mem_cons_of_mem _ (List.mem_append_right _ (List.mem_append_right _ (List.mem_append_right _ (List.mem_append_right _ (List.mem_append_right _ (List.mem_append_right _ (List.mem_append_right _ (List.mem_append_right _ (List.mem_append_left _ h))))))))))
  have kk_0 : (0 : Int32).toInt = 0 := rfl
  have fl45 := hts (.fieldLink RX4 45 "SlopeRunner$Tape" "state" "I") (List.mem_of_getElem? (i := 2) rfl)
  have inX8 : ∀ w ∈ wsX80, w ∈ v_mc_moveData := (fun w h => List.mem_cons_of_mem _ (List.mem_append_right _ (List.mem_append_right _ (List.mem_append_right _ (List.mem_append_right _ (List.mem_append_right _ (List.mem_append_right _ (List.mem_append_right _ (List.mem_append_right _ (List.mem_append_right _ h))))))))))
  refine lv_iload_n hx hb dX4_moveData_0 rfl (lv_at hl 1 rfl) ?_
  rcases (show x = 0 ∨ x = 1 ∨ x = 2 ∨ x = 3 ∨ x = 4 ∨ (x.toInt < 0 ∨ 4 < x.toInt) by simp only [x_eq, Int32.reduceToInt]; omega) with rfl | rfl | rfl | rfl | rfl | g_1
  · refine lv_tableIn (tgt := 36) hx hb dX4_moveData_1 (by decide) (by decide) rfl (by decide) ?_
    refine lv_aload_n hx hb dX4_moveData_36 rfl (lv_at hl 0 rfl) ?_
    refine lv_aload_n hx hb dX4_moveData_37 rfl (lv_at hl 0 rfl) ?_
    refine va_get (D := D) (ci := 3) (v := .ref (ad 130)) (C := RX4) (T := TX4) (N := 6) hx hb hts inX4 hown hK hP 0 mcw_o0 rfl 3 (by decide) fl24 (fun _ h9 => h9) rfl dX4_moveData_38 ?_
    refine lv_iload_n hx hb dX4_moveData_41 rfl (lv_at hl 2 rfl) ?_
    have hPs : va_P D vwCl (tpw y ad σ) H := x_suP hP [2, 11, 12, 13, 14, 15] rfl
    have hDs : va_D A (tpw y ad σ) := x_suD hD [2, 11, 12, 13, 14, 15] rfl (by decide)
    refine x_calliS (b1 := fun (u : Unit) => (mcw y ad σ)) [2, 11, 12, 13, 14, 15] (va_runV (As := [.int z]) (rest := [.ref (ad 110)]) ⟨hx, hb, hml, hown, hts⟩ (ka_numberAtX l D y H.size ad σ z) (cwV 1 hts g_mc_moveData_0 rfl rfl rfl (by decide +kernel) ⟨Nat.le_of_ble_eq_true rfl, Nat.le_of_ble_eq_true rfl⟩) (x_preV (q := (RX8, TX8, 13)) hK hPs hDs (ci := 7) (q0 := 0) rfl tpw_o0) rfl rfl hl.1 rfl (lv_room (Nat.le_of_ble_eq_true rfl)) dX4_moveData_42 ⟨Nat.le_of_ble_eq_true rfl, Nat.le_of_ble_eq_true rfl⟩) hP hD hS hA rfl (fun _ => rfl) (fun _ => rfl) (fun _ => rfl) (fun r_2 u H locs hw hP hD hS => ?_)
    try dsimp only at hw
    have hP : va_P D vwCl (mcw y ad σ) H := hP
    have hD : va_D A (mcw y ad σ) := hD
    refine x_callvW (va_runV (As := [.int r_2]) (rest := []) ⟨hx, hb, hml, hown, hts⟩ (mc_push l D y H.size ad σ r_2 (show 0 ≤ ((σ.1 115)).toInt from by first | omega | decide) (show ((σ.1 115)).toInt ≤ 64 from by first | omega | decide)) (cwV 1 hts g_mc_moveData_1 rfl rfl rfl (by decide +kernel) ⟨Nat.le_of_ble_eq_true rfl, Nat.le_of_ble_eq_true rfl⟩) (x_preV (q := (RX4, TX4, 6)) hK hP hD (ci := 3) (q0 := 0) rfl mcw_o0) rfl rfl hl.1 rfl (lv_room (Nat.le_of_ble_eq_true rfl)) dX4_moveData_45 ⟨Nat.le_of_ble_eq_true rfl, Nat.le_of_ble_eq_true rfl⟩) hP hD hS hA (fun u H locs hw hP hD hS => ?_)
    obtain ⟨f_3, n_4⟩ := u
    try dsimp only at hw
    have hP : va_P D vwCl (mcw y ad (sI (tI σ 111 f_3) 115 n_4)) H := hP
    have hD : va_D A (mcw y ad (sI (tI σ 111 f_3) 115 n_4)) := hD
    replace hw : 0 ≤ n_4.toInt ∧ n_4.toInt ≤ 64 := hw
    refine lv_goto (tgt := 113) hx hb dX4_moveData_48 (by decide) ?_
    have hP : va_P D vwCl (mcw y ad (sI (sJ (sI (sI (tI (sI (sI (tJ (tI (tI (tI (sI (sI (tI (tI σ 111 f_3) 112 (σ.2.2.1 112)) 115 n_4) 116 (σ.1 116)) 132 (σ.2.2.1 132)) 133 (σ.2.2.1 133)) 134 (σ.2.2.1 134)) 131 (σ.2.2.2 131)) 139 (σ.1 139)) 140 (σ.1 140)) 135 (σ.2.2.1 135)) 141 (σ.1 141)) 142 (σ.1 142)) 143 (σ.2.1 143)) 136 (σ.1 136))) H := hP
    have hD : va_D A (mcw y ad (sI (sJ (sI (sI (tI (sI (sI (tJ (tI (tI (tI (sI (sI (tI (tI σ 111 f_3) 112 (σ.2.2.1 112)) 115 n_4) 116 (σ.1 116)) 132 (σ.2.2.1 132)) 133 (σ.2.2.1 133)) 134 (σ.2.2.1 134)) 131 (σ.2.2.2 131)) 139 (σ.1 139)) 140 (σ.1 140)) 135 (σ.2.2.1 135)) 141 (σ.1 141)) 142 (σ.1 142)) 143 (σ.2.1 143)) 136 (σ.1 136))) := hD
    exact x_vretW (u := (f_3, (σ.2.2.1 112), n_4, (σ.1 116), (σ.2.2.1 132), (σ.2.2.1 133), (σ.2.2.1 134), (σ.2.2.2 131), (σ.1 139), (σ.1 140), (σ.2.2.1 135), (σ.1 141), (σ.1 142), (σ.2.1 143), (σ.1 136))) hx hb hr hQ (by (try dsimp only); exact ⟨⟨by omega, by omega, by omega, by omega, by omega, by omega⟩, hB133, hB134, hB135⟩) hP hD hK hS dX4_moveData_113 hlocks
  · refine lv_tableIn (tgt := 51) hx hb dX4_moveData_1 (by decide) (by decide) rfl (by decide) ?_
    refine lv_aload_n hx hb dX4_moveData_51 rfl (lv_at hl 0 rfl) ?_
    refine lv_iload_n hx hb dX4_moveData_52 rfl (lv_at hl 2 rfl) ?_
    refine x_callvW (va_runV (As := [.int z]) (rest := []) ⟨hx, hb, hml, hown, hts⟩ (mc_load l D y H.size ad σ z (show 0 ≤ ((σ.1 115)).toInt from by first | omega | decide) (show ((σ.1 115)).toInt ≤ 64 from by first | omega | decide)) (cwV 1 hts g_mc_moveData_2 rfl rfl rfl (by decide +kernel) ⟨Nat.le_of_ble_eq_true rfl, Nat.le_of_ble_eq_true rfl⟩) (x_preV (q := (RX4, TX4, 6)) hK hP hD (ci := 3) (q0 := 0) rfl mcw_o0) rfl rfl hl.1 rfl (lv_room (Nat.le_of_ble_eq_true rfl)) dX4_moveData_53 ⟨Nat.le_of_ble_eq_true rfl, Nat.le_of_ble_eq_true rfl⟩) hP hD hS hA (fun u H locs hw hP hD hS => ?_)
    obtain ⟨n_5, f_6, n_7⟩ := u
    try dsimp only at hw
    have hP : va_P D vwCl (mcw y ad (sI (tI (sI σ 136 n_5) 111 f_6) 115 n_7)) H := hP
    have hD : va_D A (mcw y ad (sI (tI (sI σ 136 n_5) 111 f_6) 115 n_7)) := hD
    replace hw : 0 ≤ n_7.toInt ∧ n_7.toInt ≤ 64 := hw
    refine lv_goto (tgt := 113) hx hb dX4_moveData_56 (by decide) ?_
    have hP : va_P D vwCl (mcw y ad (sI (sJ (sI (sI (tI (sI (sI (tJ (tI (tI (tI (sI (sI (tI (tI σ 111 f_6) 112 (σ.2.2.1 112)) 115 n_7) 116 (σ.1 116)) 132 (σ.2.2.1 132)) 133 (σ.2.2.1 133)) 134 (σ.2.2.1 134)) 131 (σ.2.2.2 131)) 139 (σ.1 139)) 140 (σ.1 140)) 135 (σ.2.2.1 135)) 141 (σ.1 141)) 142 (σ.1 142)) 143 (σ.2.1 143)) 136 n_5)) H := hP
    have hD : va_D A (mcw y ad (sI (sJ (sI (sI (tI (sI (sI (tJ (tI (tI (tI (sI (sI (tI (tI σ 111 f_6) 112 (σ.2.2.1 112)) 115 n_7) 116 (σ.1 116)) 132 (σ.2.2.1 132)) 133 (σ.2.2.1 133)) 134 (σ.2.2.1 134)) 131 (σ.2.2.2 131)) 139 (σ.1 139)) 140 (σ.1 140)) 135 (σ.2.2.1 135)) 141 (σ.1 141)) 142 (σ.1 142)) 143 (σ.2.1 143)) 136 n_5)) := hD
    exact x_vretW (u := (f_6, (σ.2.2.1 112), n_7, (σ.1 116), (σ.2.2.1 132), (σ.2.2.1 133), (σ.2.2.1 134), (σ.2.2.2 131), (σ.1 139), (σ.1 140), (σ.2.2.1 135), (σ.1 141), (σ.1 142), (σ.2.1 143), n_5)) hx hb hr hQ (by (try dsimp only); exact ⟨⟨by omega, by omega, by omega, by omega, by omega, by omega⟩, hB133, hB134, hB135⟩) hP hD hK hS dX4_moveData_113 hlocks
  · refine lv_tableIn (tgt := 59) hx hb dX4_moveData_1 (by decide) (by decide) rfl (by decide) ?_
    refine lv_aload_n hx hb dX4_moveData_59 rfl (lv_at hl 0 rfl) ?_
    refine lv_aload_n hx hb dX4_moveData_60 rfl (lv_at hl 0 rfl) ?_
    refine lv_iload_n hx hb dX4_moveData_61 rfl (lv_at hl 2 rfl) ?_
    refine x_calliW (va_runV (As := [.int z]) (rest := [.ref (ad 110)]) ⟨hx, hb, hml, hown, hts⟩ (mc_slotInRow l D y H.size ad σ z (show 0 ≤ ((σ.1 115)).toInt from by first | omega | decide) (show ((σ.1 115)).toInt ≤ 64 from by first | omega | decide) (show 0 ≤ ((σ.1 139)).toInt from by first | omega | decide) (show ((σ.1 139)).toInt ≤ 1359 from by first | omega | decide) (show 0 ≤ ((σ.1 141)).toInt from by first | omega | decide) (show ((σ.1 141)).toInt ≤ 12 from by first | omega | decide) (show 0 ≤ ((σ.1 137)).toInt from by first | omega | decide) (show ((σ.1 137)).toInt ≤ 8 from by first | omega | decide) (show 0 ≤ ((σ.1 86)).toInt from by first | omega | decide) (show ((σ.1 86)).toInt ≤ 700 from by first | omega | decide) (show 0 ≤ ((σ.1 82)).toInt from by first | omega | decide) (show ((σ.1 82)).toInt ≤ 4 from by first | omega | decide)) (cwV 1 hts g_mc_moveData_3 rfl rfl rfl (by decide +kernel) ⟨Nat.le_of_ble_eq_true rfl, Nat.le_of_ble_eq_true rfl⟩) (x_preV (q := (RX4, TX4, 6)) hK hP hD (ci := 3) (q0 := 0) rfl mcw_o0) rfl rfl hl.1 rfl (lv_room (Nat.le_of_ble_eq_true rfl)) dX4_moveData_62 ⟨Nat.le_of_ble_eq_true rfl, Nat.le_of_ble_eq_true rfl⟩) hP hD hS hA (fun r_8 u H locs hw hP hD hS => ?_)
    obtain ⟨n_9, rfl⟩ : ∃ z9, z9 = u := ⟨_, rfl⟩
    try dsimp only at hw
    have hP : va_P D vwCl (mcw y ad (sI σ 115 n_9)) H := hP
    have hD : va_D A (mcw y ad (sI σ 115 n_9)) := hD
    replace hw : 0 ≤ n_9.toInt ∧ n_9.toInt ≤ 64 := hw
    refine x_callvW (va_runV (As := [.int r_8]) (rest := []) ⟨hx, hb, hml, hown, hts⟩ (mc_load l D y H.size ad (sI σ 115 n_9) r_8 (show 0 ≤ (n_9).toInt from by first | omega | decide) (show (n_9).toInt ≤ 64 from by first | omega | decide)) (cwV 1 hts g_mc_moveData_2 rfl rfl rfl (by decide +kernel) ⟨Nat.le_of_ble_eq_true rfl, Nat.le_of_ble_eq_true rfl⟩) (x_preV (q := (RX4, TX4, 6)) hK hP hD (ci := 3) (q0 := 0) rfl mcw_o0) rfl rfl hl.1 rfl (lv_room (Nat.le_of_ble_eq_true rfl)) dX4_moveData_65 ⟨Nat.le_of_ble_eq_true rfl, Nat.le_of_ble_eq_true rfl⟩) hP hD hS hA (fun u H locs hw hP hD hS => ?_)
    obtain ⟨n_10, f_11, n_12⟩ := u
    try dsimp only at hw
    have hP : va_P D vwCl (mcw y ad (sI (tI (sI (sI σ 115 n_9) 136 n_10) 111 f_11) 115 n_12)) H := hP
    have hD : va_D A (mcw y ad (sI (tI (sI (sI σ 115 n_9) 136 n_10) 111 f_11) 115 n_12)) := hD
    replace hw : 0 ≤ n_12.toInt ∧ n_12.toInt ≤ 64 := hw
    refine lv_goto (tgt := 113) hx hb dX4_moveData_68 (by decide) ?_
    have hP : va_P D vwCl (mcw y ad (sI (sJ (sI (sI (tI (sI (sI (tJ (tI (tI (tI (sI (sI (tI (tI σ 111 f_11) 112 (σ.2.2.1 112)) 115 n_12) 116 (σ.1 116)) 132 (σ.2.2.1 132)) 133 (σ.2.2.1 133)) 134 (σ.2.2.1 134)) 131 (σ.2.2.2 131)) 139 (σ.1 139)) 140 (σ.1 140)) 135 (σ.2.2.1 135)) 141 (σ.1 141)) 142 (σ.1 142)) 143 (σ.2.1 143)) 136 n_10)) H := hP
    have hD : va_D A (mcw y ad (sI (sJ (sI (sI (tI (sI (sI (tJ (tI (tI (tI (sI (sI (tI (tI σ 111 f_11) 112 (σ.2.2.1 112)) 115 n_12) 116 (σ.1 116)) 132 (σ.2.2.1 132)) 133 (σ.2.2.1 133)) 134 (σ.2.2.1 134)) 131 (σ.2.2.2 131)) 139 (σ.1 139)) 140 (σ.1 140)) 135 (σ.2.2.1 135)) 141 (σ.1 141)) 142 (σ.1 142)) 143 (σ.2.1 143)) 136 n_10)) := hD
    exact x_vretW (u := (f_11, (σ.2.2.1 112), n_12, (σ.1 116), (σ.2.2.1 132), (σ.2.2.1 133), (σ.2.2.1 134), (σ.2.2.2 131), (σ.1 139), (σ.1 140), (σ.2.2.1 135), (σ.1 141), (σ.1 142), (σ.2.1 143), n_10)) hx hb hr hQ (by (try dsimp only); exact ⟨⟨by omega, by omega, by omega, by omega, by omega, by omega⟩, hB133, hB134, hB135⟩) hP hD hK hS dX4_moveData_113 hlocks
  · refine lv_tableIn (tgt := 71) hx hb dX4_moveData_1 (by decide) (by decide) rfl (by decide) ?_
    refine lv_aload_n hx hb dX4_moveData_71 rfl (lv_at hl 0 rfl) ?_
    refine lv_iload_n hx hb dX4_moveData_72 rfl (lv_at hl 2 rfl) ?_
    refine x_callvW (va_runV (As := [.int z]) (rest := []) ⟨hx, hb, hml, hown, hts⟩ (mc_store l D y H.size ad σ z (show 0 ≤ ((σ.1 115)).toInt from by first | omega | decide) (show ((σ.1 115)).toInt ≤ 64 from by first | omega | decide)) (cwV 1 hts g_mc_moveData_4 rfl rfl rfl (by decide +kernel) ⟨Nat.le_of_ble_eq_true rfl, Nat.le_of_ble_eq_true rfl⟩) (x_preV (q := (RX4, TX4, 6)) hK hP hD (ci := 3) (q0 := 0) rfl mcw_o0) rfl rfl hl.1 rfl (lv_room (Nat.le_of_ble_eq_true rfl)) dX4_moveData_73 ⟨Nat.le_of_ble_eq_true rfl, Nat.le_of_ble_eq_true rfl⟩) hP hD hS hA (fun u H locs hw hP hD hS => ?_)
    obtain ⟨n_13, f_14, n_15⟩ := u
    try dsimp only at hw
    have hP : va_P D vwCl (mcw y ad (sI (tI (sI σ 136 n_13) 112 f_14) 115 n_15)) H := hP
    have hD : va_D A (mcw y ad (sI (tI (sI σ 136 n_13) 112 f_14) 115 n_15)) := hD
    replace hw : 0 ≤ n_15.toInt ∧ n_15.toInt ≤ 64 := hw
    refine lv_goto (tgt := 113) hx hb dX4_moveData_76 (by decide) ?_
    have hP : va_P D vwCl (mcw y ad (sI (sJ (sI (sI (tI (sI (sI (tJ (tI (tI (tI (sI (sI (tI (tI σ 111 (σ.2.2.1 111)) 112 f_14) 115 n_15) 116 (σ.1 116)) 132 (σ.2.2.1 132)) 133 (σ.2.2.1 133)) 134 (σ.2.2.1 134)) 131 (σ.2.2.2 131)) 139 (σ.1 139)) 140 (σ.1 140)) 135 (σ.2.2.1 135)) 141 (σ.1 141)) 142 (σ.1 142)) 143 (σ.2.1 143)) 136 n_13)) H := hP
    have hD : va_D A (mcw y ad (sI (sJ (sI (sI (tI (sI (sI (tJ (tI (tI (tI (sI (sI (tI (tI σ 111 (σ.2.2.1 111)) 112 f_14) 115 n_15) 116 (σ.1 116)) 132 (σ.2.2.1 132)) 133 (σ.2.2.1 133)) 134 (σ.2.2.1 134)) 131 (σ.2.2.2 131)) 139 (σ.1 139)) 140 (σ.1 140)) 135 (σ.2.2.1 135)) 141 (σ.1 141)) 142 (σ.1 142)) 143 (σ.2.1 143)) 136 n_13)) := hD
    exact x_vretW (u := ((σ.2.2.1 111), f_14, n_15, (σ.1 116), (σ.2.2.1 132), (σ.2.2.1 133), (σ.2.2.1 134), (σ.2.2.2 131), (σ.1 139), (σ.1 140), (σ.2.2.1 135), (σ.1 141), (σ.1 142), (σ.2.1 143), n_13)) hx hb hr hQ (by (try dsimp only); exact ⟨⟨by omega, by omega, by omega, by omega, by omega, by omega⟩, hB133, hB134, hB135⟩) hP hD hK hS dX4_moveData_113 hlocks
  · refine lv_tableIn (tgt := 79) hx hb dX4_moveData_1 (by decide) (by decide) rfl (by decide) ?_
    refine lv_aload_n hx hb dX4_moveData_79 rfl (lv_at hl 0 rfl) ?_
    refine lv_aload_n hx hb dX4_moveData_80 rfl (lv_at hl 0 rfl) ?_
    refine lv_iload_n hx hb dX4_moveData_81 rfl (lv_at hl 2 rfl) ?_
    refine x_calliW (va_runV (As := [.int z]) (rest := [.ref (ad 110)]) ⟨hx, hb, hml, hown, hts⟩ (mc_slotInRow l D y H.size ad σ z (show 0 ≤ ((σ.1 115)).toInt from by first | omega | decide) (show ((σ.1 115)).toInt ≤ 64 from by first | omega | decide) (show 0 ≤ ((σ.1 139)).toInt from by first | omega | decide) (show ((σ.1 139)).toInt ≤ 1359 from by first | omega | decide) (show 0 ≤ ((σ.1 141)).toInt from by first | omega | decide) (show ((σ.1 141)).toInt ≤ 12 from by first | omega | decide) (show 0 ≤ ((σ.1 137)).toInt from by first | omega | decide) (show ((σ.1 137)).toInt ≤ 8 from by first | omega | decide) (show 0 ≤ ((σ.1 86)).toInt from by first | omega | decide) (show ((σ.1 86)).toInt ≤ 700 from by first | omega | decide) (show 0 ≤ ((σ.1 82)).toInt from by first | omega | decide) (show ((σ.1 82)).toInt ≤ 4 from by first | omega | decide)) (cwV 1 hts g_mc_moveData_3 rfl rfl rfl (by decide +kernel) ⟨Nat.le_of_ble_eq_true rfl, Nat.le_of_ble_eq_true rfl⟩) (x_preV (q := (RX4, TX4, 6)) hK hP hD (ci := 3) (q0 := 0) rfl mcw_o0) rfl rfl hl.1 rfl (lv_room (Nat.le_of_ble_eq_true rfl)) dX4_moveData_82 ⟨Nat.le_of_ble_eq_true rfl, Nat.le_of_ble_eq_true rfl⟩) hP hD hS hA (fun r_16 u H locs hw hP hD hS => ?_)
    obtain ⟨n_17, rfl⟩ : ∃ z9, z9 = u := ⟨_, rfl⟩
    try dsimp only at hw
    have hP : va_P D vwCl (mcw y ad (sI σ 115 n_17)) H := hP
    have hD : va_D A (mcw y ad (sI σ 115 n_17)) := hD
    replace hw : 0 ≤ n_17.toInt ∧ n_17.toInt ≤ 64 := hw
    refine x_callvW (va_runV (As := [.int r_16]) (rest := []) ⟨hx, hb, hml, hown, hts⟩ (mc_store l D y H.size ad (sI σ 115 n_17) r_16 (show 0 ≤ (n_17).toInt from by first | omega | decide) (show (n_17).toInt ≤ 64 from by first | omega | decide)) (cwV 1 hts g_mc_moveData_4 rfl rfl rfl (by decide +kernel) ⟨Nat.le_of_ble_eq_true rfl, Nat.le_of_ble_eq_true rfl⟩) (x_preV (q := (RX4, TX4, 6)) hK hP hD (ci := 3) (q0 := 0) rfl mcw_o0) rfl rfl hl.1 rfl (lv_room (Nat.le_of_ble_eq_true rfl)) dX4_moveData_85 ⟨Nat.le_of_ble_eq_true rfl, Nat.le_of_ble_eq_true rfl⟩) hP hD hS hA (fun u H locs hw hP hD hS => ?_)
    obtain ⟨n_18, f_19, n_20⟩ := u
    try dsimp only at hw
    have hP : va_P D vwCl (mcw y ad (sI (tI (sI (sI σ 115 n_17) 136 n_18) 112 f_19) 115 n_20)) H := hP
    have hD : va_D A (mcw y ad (sI (tI (sI (sI σ 115 n_17) 136 n_18) 112 f_19) 115 n_20)) := hD
    replace hw : 0 ≤ n_20.toInt ∧ n_20.toInt ≤ 64 := hw
    refine lv_goto (tgt := 113) hx hb dX4_moveData_88 (by decide) ?_
    have hP : va_P D vwCl (mcw y ad (sI (sJ (sI (sI (tI (sI (sI (tJ (tI (tI (tI (sI (sI (tI (tI σ 111 (σ.2.2.1 111)) 112 f_19) 115 n_20) 116 (σ.1 116)) 132 (σ.2.2.1 132)) 133 (σ.2.2.1 133)) 134 (σ.2.2.1 134)) 131 (σ.2.2.2 131)) 139 (σ.1 139)) 140 (σ.1 140)) 135 (σ.2.2.1 135)) 141 (σ.1 141)) 142 (σ.1 142)) 143 (σ.2.1 143)) 136 n_18)) H := hP
    have hD : va_D A (mcw y ad (sI (sJ (sI (sI (tI (sI (sI (tJ (tI (tI (tI (sI (sI (tI (tI σ 111 (σ.2.2.1 111)) 112 f_19) 115 n_20) 116 (σ.1 116)) 132 (σ.2.2.1 132)) 133 (σ.2.2.1 133)) 134 (σ.2.2.1 134)) 131 (σ.2.2.2 131)) 139 (σ.1 139)) 140 (σ.1 140)) 135 (σ.2.2.1 135)) 141 (σ.1 141)) 142 (σ.1 142)) 143 (σ.2.1 143)) 136 n_18)) := hD
    exact x_vretW (u := ((σ.2.2.1 111), f_19, n_20, (σ.1 116), (σ.2.2.1 132), (σ.2.2.1 133), (σ.2.2.1 134), (σ.2.2.2 131), (σ.1 139), (σ.1 140), (σ.2.2.1 135), (σ.1 141), (σ.1 142), (σ.2.1 143), n_18)) hx hb hr hQ (by (try dsimp only); exact ⟨⟨by omega, by omega, by omega, by omega, by omega, by omega⟩, hB133, hB134, hB135⟩) hP hD hK hS dX4_moveData_113 hlocks
  · refine lv_tableOut (tgt := 91) hx hb dX4_moveData_1 g_1 (by decide) ?_
    refine lv_aload_n hx hb dX4_moveData_91 rfl (lv_at hl 0 rfl) ?_
    refine va_get (D := D) (ci := 3) (v := .ref (ad 130)) (C := RX4) (T := TX4) (N := 6) hx hb hts inX4 hown hK hP 0 mcw_o0 rfl 3 (by decide) fl24 (fun _ h9 => h9) rfl dX4_moveData_92 ?_
    refine lv_aload_n hx hb dX4_moveData_95 rfl (lv_at hl 0 rfl) ?_
    refine x_calliW (va_runV (As := []) (rest := [.ref (ad 130)]) ⟨hx, hb, hml, hown, hts⟩ (mc_pop l D y H.size ad σ (show 0 ≤ ((σ.1 115)).toInt from by first | omega | decide) (show ((σ.1 115)).toInt ≤ 64 from by first | omega | decide)) (cwV 0 hts g_mc_moveData_5 rfl rfl rfl (by decide +kernel) ⟨Nat.le_of_ble_eq_true rfl, Nat.le_of_ble_eq_true rfl⟩) (x_preV (q := (RX4, TX4, 6)) hK hP hD (ci := 3) (q0 := 0) rfl mcw_o0) rfl rfl hl.1 rfl (lv_room (Nat.le_of_ble_eq_true rfl)) dX4_moveData_96 ⟨Nat.le_of_ble_eq_true rfl, Nat.le_of_ble_eq_true rfl⟩) hP hD hS hA (fun r_21 u H locs hw hP hD hS => ?_)
    obtain ⟨n_22, rfl⟩ : ∃ z9, z9 = u := ⟨_, rfl⟩
    try dsimp only at hw
    have hP : va_P D vwCl (mcw y ad (sI σ 115 n_22)) H := hP
    have hD : va_D A (mcw y ad (sI σ 115 n_22)) := hD
    replace hw : 0 ≤ n_22.toInt ∧ n_22.toInt ≤ 64 := hw
    have hPs : va_P D vwCl (tpw y ad (sI σ 115 n_22)) H := x_suP hP [2, 11, 12, 13, 14, 15] rfl
    have hDs : va_D A (tpw y ad (sI σ 115 n_22)) := x_suD hD [2, 11, 12, 13, 14, 15] rfl (by decide)
    refine x_calliS (b1 := fun (u : (Nat → Int32) × Int32) => (mcw y ad (sI (tI (sI σ 115 n_22) 135 u.1) 141 u.2))) [2, 11, 12, 13, 14, 15] (va_runV (As := [.int r_21]) (rest := []) ⟨hx, hb, hml, hown, hts⟩ (ka_giveOut l D y H.size ad (sI σ 115 n_22) r_21 (show 0 ≤ ((σ.1 139)).toInt from by first | omega | decide) (show ((σ.1 139)).toInt ≤ 1359 from by first | omega | decide) (show 0 ≤ ((σ.1 141)).toInt from by first | omega | decide) (show ((σ.1 141)).toInt ≤ 12 from by first | omega | decide) hB135) (cwV 1 hts g_mc_moveData_6 rfl rfl rfl (by decide +kernel) ⟨Nat.le_of_ble_eq_true rfl, Nat.le_of_ble_eq_true rfl⟩) (x_preV (q := (RX8, TX8, 13)) hK hPs hDs (ci := 7) (q0 := 0) rfl tpw_o0) rfl rfl hl.1 rfl (lv_room (Nat.le_of_ble_eq_true rfl)) dX4_moveData_99 ⟨Nat.le_of_ble_eq_true rfl, Nat.le_of_ble_eq_true rfl⟩) hP hD hS hA rfl (fun _ => rfl) (fun _ => rfl) (fun _ => rfl) (fun r_23 u H locs hw hP hD hS => ?_)
    obtain ⟨f_24, n_25⟩ := u
    try dsimp only at hw
    have hP : va_P D vwCl (mcw y ad (sI (tI (sI σ 115 n_22) 135 f_24) 141 n_25)) H := hP
    have hD : va_D A (mcw y ad (sI (tI (sI σ 115 n_22) 135 f_24) 141 n_25)) := hD
    replace hw : (0 ≤ n_25.toInt ∧ n_25.toInt ≤ 12 ∧ (r_23.toInt = 0 ∨ r_23.toInt = 1)) ∧ bI f_24 0 1358 := hw
    obtain ⟨hw, hg_26⟩ := hw
    refine lv_if_ne (tgt := 113) hx hb dX4_moveData_102 (by decide) (fun c_27 => ?_) (fun c_27 => ?_)
    · have kc_27 : r_23.toInt ≠ 0 := by have h9 := c_27; simp only [ge_iff_le, gt_iff_lt, x_lt, x_le, x_eq, ne_eq, Int32.not_lt, Int32.not_le] at h9; simp only [Int32.reduceToInt] at h9; omega
      have hP : va_P D vwCl (mcw y ad (sI (sJ (sI (sI (tI (sI (sI (tJ (tI (tI (tI (sI (sI (tI (tI σ 111 (σ.2.2.1 111)) 112 (σ.2.2.1 112)) 115 n_22) 116 (σ.1 116)) 132 (σ.2.2.1 132)) 133 (σ.2.2.1 133)) 134 (σ.2.2.1 134)) 131 (σ.2.2.2 131)) 139 (σ.1 139)) 140 (σ.1 140)) 135 f_24) 141 n_25) 142 (σ.1 142)) 143 (σ.2.1 143)) 136 (σ.1 136))) H := hP
      have hD : va_D A (mcw y ad (sI (sJ (sI (sI (tI (sI (sI (tJ (tI (tI (tI (sI (sI (tI (tI σ 111 (σ.2.2.1 111)) 112 (σ.2.2.1 112)) 115 n_22) 116 (σ.1 116)) 132 (σ.2.2.1 132)) 133 (σ.2.2.1 133)) 134 (σ.2.2.1 134)) 131 (σ.2.2.2 131)) 139 (σ.1 139)) 140 (σ.1 140)) 135 f_24) 141 n_25) 142 (σ.1 142)) 143 (σ.2.1 143)) 136 (σ.1 136))) := hD
      exact x_vretW (u := ((σ.2.2.1 111), (σ.2.2.1 112), n_22, (σ.1 116), (σ.2.2.1 132), (σ.2.2.1 133), (σ.2.2.1 134), (σ.2.2.2 131), (σ.1 139), (σ.1 140), f_24, n_25, (σ.1 142), (σ.2.1 143), (σ.1 136))) hx hb hr hQ (by (try dsimp only); exact ⟨⟨by omega, by omega, by omega, by omega, by omega, by omega⟩, hB133, hB134, hg_26⟩) hP hD hK hS dX4_moveData_113 hlocks
    · have kc_27 : r_23.toInt = 0 := by have h9 := c_27; simp only [ge_iff_le, gt_iff_lt, x_lt, x_le, x_eq, ne_eq, Int32.not_lt, Int32.not_le] at h9; simp only [Int32.reduceToInt] at h9; omega
      refine lv_aload_n hx hb dX4_moveData_105 rfl (lv_at hl 0 rfl) ?_
      refine va_get (D := D) (ci := 3) (v := .ref (ad 130)) (C := RX4) (T := TX4) (N := 6) hx hb hts inX4 hown hK hP 0 mcw_o0 rfl 3 (by decide) fl24 (fun _ h9 => h9) rfl dX4_moveData_106 ?_
      refine lv_iconst (v := 1) hx hb dX4_moveData_109 (by decide) ?_
      refine va_put (D := D) (ci := 7) (v := .int 1) (ty := .int) (C := RX8) (T := TX8) (N := 13) hx hb hts inX8 tyX8 tyX8_ok nmX8 hown hK hP hD hS 2 mcw_o2 rfl 5 (by decide) fl45 (fun _ h9 => h9) rfl (by decide +kernel) rfl rfl (Nat.le_of_ble_eq_true rfl) dX4_moveData_110 (fun H locs hP hD hS => ?_)
      have hP : va_P D vwCl (mcw y ad (sI (sI (tI (sI σ 115 n_22) 135 f_24) 141 n_25) 136 1)) H := x_trP hP mcw_p2_5
      have hD : va_D A (mcw y ad (sI (sI (tI (sI σ 115 n_22) 135 f_24) 141 n_25) 136 1)) := x_trD hD mcw_p2_5
      have hP : va_P D vwCl (mcw y ad (sI (sJ (sI (sI (tI (sI (sI (tJ (tI (tI (tI (sI (sI (tI (tI σ 111 (σ.2.2.1 111)) 112 (σ.2.2.1 112)) 115 n_22) 116 (σ.1 116)) 132 (σ.2.2.1 132)) 133 (σ.2.2.1 133)) 134 (σ.2.2.1 134)) 131 (σ.2.2.2 131)) 139 (σ.1 139)) 140 (σ.1 140)) 135 f_24) 141 n_25) 142 (σ.1 142)) 143 (σ.2.1 143)) 136 1)) H := hP
      have hD : va_D A (mcw y ad (sI (sJ (sI (sI (tI (sI (sI (tJ (tI (tI (tI (sI (sI (tI (tI σ 111 (σ.2.2.1 111)) 112 (σ.2.2.1 112)) 115 n_22) 116 (σ.1 116)) 132 (σ.2.2.1 132)) 133 (σ.2.2.1 133)) 134 (σ.2.2.1 134)) 131 (σ.2.2.2 131)) 139 (σ.1 139)) 140 (σ.1 140)) 135 f_24) 141 n_25) 142 (σ.1 142)) 143 (σ.2.1 143)) 136 1)) := hD
      exact x_vretW (u := ((σ.2.2.1 111), (σ.2.2.1 112), n_22, (σ.1 116), (σ.2.2.1 132), (σ.2.2.1 133), (σ.2.2.1 134), (σ.2.2.2 131), (σ.1 139), (σ.1 140), f_24, n_25, (σ.1 142), (σ.2.1 143), 1)) hx hb hr hQ (by (try dsimp only); exact ⟨⟨by omega, by omega, by omega, by omega, by omega, by omega⟩, hB133, hB134, hg_26⟩) hP hD hK hS dX4_moveData_113 hlocks

def v_mc_decide : List Cond := .code yX4_decide cX4_decide 3 none :: ([.fieldLink RX4 32 "SlopeRunner$Machine" "at" "I"] ++ ((wsV RX4 81 RX4 yX4_pop v_mc_pop) ++ ((wsV RX4 69 RX4 yX4_push v_mc_push) ++ wsX40)))
theorem g_mc_decide_0 : GoodIn v_mc_decide (wsV RX4 81 RX4 yX4_pop v_mc_pop) := goodIn_sub (fun w h => List.mem_cons_of_mem _ (List.mem_append_right _ (List.mem_append_left _ h))) (by decide +kernel)
theorem g_mc_decide_1 : GoodIn v_mc_decide (wsV RX4 69 RX4 yX4_push v_mc_push) := goodIn_sub (fun w h => List.mem_cons_of_mem _ (List.mem_append_right _ (List.mem_append_right _ (List.mem_append_left _ h)))) (by decide +kernel)
set_option maxHeartbeats 4000000 in
set_option maxRecDepth 100000 in
theorem mc_decide (l : Launch) (D : va_G) (y : Nat → ClassId) (sz : Nat) (ad : Nat → Nat) (σ : OS) (x z : Int32) (htop0 : 0 ≤ (σ.1 115).toInt) (htop1 : (σ.1 115).toInt ≤ 64) (hsize0 : 0 ≤ (σ.1 139).toInt) (hsize1 : (σ.1 139).toInt ≤ 1359) (hresults0 : 0 ≤ (σ.1 141).toInt) (hresults1 : (σ.1 141).toInt ≤ 12) (hinputs0 : 0 ≤ (σ.1 137).toInt) (hinputs1 : (σ.1 137).toInt ≤ 8) (hplength0 : 0 ≤ (σ.1 86).toInt) (hplength1 : (σ.1 86).toInt ≤ 700) (hprows0 : 0 ≤ (σ.1 82).toInt) (hprows1 : (σ.1 82).toInt ≤ 4)  (hB133 : bI (σ.2.2.1 133) 0 1358) (hB134 : bI (σ.2.2.1 134) 0 1358) (hB135 : bI (σ.2.2.1 135) 0 1358) : Met l yX4_decide v_mc_decide ({ frames := 1, cells := 0, slots := 0, locals := 21 } : Room) (va_Pc [.ref (ad 110), .int x, .int z] (xPre D (xT y) (mcw y ad σ) sz)) (va_Qv (fun (u : (Nat → Int32) × (Nat → Int32) × Int32 × Int32 × (Nat → Int32) × (Nat → Int32) × (Nat → Int32) × (Nat → Int64) × Int32 × Int32 × (Nat → Int32) × Int32 × Int32 × Int64 × Int32) => (0 ≤ u.2.2.1.toInt ∧ u.2.2.1.toInt ≤ 64 ∧ 0 ≤ u.2.2.2.2.2.2.2.2.1.toInt ∧ u.2.2.2.2.2.2.2.2.1.toInt ≤ 1359 ∧ 0 ≤ u.2.2.2.2.2.2.2.2.2.2.2.1.toInt ∧ u.2.2.2.2.2.2.2.2.2.2.2.1.toInt ≤ 12) ∧ bI u.2.2.2.2.2.1 0 1358 ∧ bI u.2.2.2.2.2.2.1 0 1358 ∧ bI u.2.2.2.2.2.2.2.2.2.2.1 0 1358) (fun (u : (Nat → Int32) × (Nat → Int32) × Int32 × Int32 × (Nat → Int32) × (Nat → Int32) × (Nat → Int32) × (Nat → Int64) × Int32 × Int32 × (Nat → Int32) × Int32 × Int32 × Int64 × Int32) => xB D (xT y) (va_A (mcw y ad σ) sz) (mcw y ad (sI (sJ (sI (sI (tI (sI (sI (tJ (tI (tI (tI (sI (sI (tI (tI σ 111 u.1) 112 u.2.1) 115 u.2.2.1) 116 u.2.2.2.1) 132 u.2.2.2.2.1) 133 u.2.2.2.2.2.1) 134 u.2.2.2.2.2.2.1) 131 u.2.2.2.2.2.2.2.1) 139 u.2.2.2.2.2.2.2.2.1) 140 u.2.2.2.2.2.2.2.2.2.1) 135 u.2.2.2.2.2.2.2.2.2.2.1) 141 u.2.2.2.2.2.2.2.2.2.2.2.1) 142 u.2.2.2.2.2.2.2.2.2.2.2.2.1) 143 u.2.2.2.2.2.2.2.2.2.2.2.2.2.1) 136 u.2.2.2.2.2.2.2.2.2.2.2.2.2.2))) (va_A (mcw y ad σ) sz)) 0 0 (va_A (mcw y ad σ) sz) := by
  refine x_metv (cc := cX4_decide) (maxL := 3) (by decide) rfl (Nat.le_of_ble_eq_true rfl) ?_
  intro p e s m below meth c A H locs Q hx hb hml hown hts hr hlocks hmn hA hP hK hD hS ls hl hQ
  have hl : lv_has ls 3 [(0, .ref (ad 110)), (1, .int x), (2, .int z)] := hl
  have kk_0 : (0 : Int32).toInt = 0 := rfl
  have fl32 := hts (.fieldLink RX4 32 "SlopeRunner$Machine" "at" "I") (List.mem_of_getElem? (i := 1) rfl)
  have inX4 : ∀ w ∈ wsX40, w ∈ v_mc_decide := (fun w h => List.mem_cons_of_mem _ (List.mem_append_right _ (List.mem_append_right _ (List.mem_append_right _ h))))
  refine lv_iload_n hx hb dX4_decide_0 rfl (lv_at hl 1 rfl) ?_
  rcases (show x = 16 ∨ x = 17 ∨ x = 18 ∨ x = 19 ∨ (x.toInt < 16 ∨ 19 < x.toInt) by simp only [x_eq, Int32.reduceToInt]; omega) with rfl | rfl | rfl | rfl | g_1
  · refine lv_tableIn (tgt := 32) hx hb dX4_decide_1 (by decide) (by decide) rfl (by decide) ?_
    refine lv_aload_n hx hb dX4_decide_32 rfl (lv_at hl 0 rfl) ?_
    refine lv_iconst (v := 1) hx hb dX4_decide_33 (by decide) ?_
    refine lv_aload_n hx hb dX4_decide_34 rfl (lv_at hl 0 rfl) ?_
    refine x_calliW (va_runV (As := []) (rest := [.int 1, .ref (ad 110)]) ⟨hx, hb, hml, hown, hts⟩ (mc_pop l D y H.size ad σ (show 0 ≤ ((σ.1 115)).toInt from by first | omega | decide) (show ((σ.1 115)).toInt ≤ 64 from by first | omega | decide)) (cwV 0 hts g_mc_decide_0 rfl rfl rfl (by decide +kernel) ⟨Nat.le_of_ble_eq_true rfl, Nat.le_of_ble_eq_true rfl⟩) (x_preV (q := (RX4, TX4, 6)) hK hP hD (ci := 3) (q0 := 0) rfl mcw_o0) rfl rfl hl.1 rfl (lv_room (Nat.le_of_ble_eq_true rfl)) dX4_decide_35 ⟨Nat.le_of_ble_eq_true rfl, Nat.le_of_ble_eq_true rfl⟩) hP hD hS hA (fun r_2 u H locs hw hP hD hS => ?_)
    obtain ⟨n_3, rfl⟩ : ∃ z9, z9 = u := ⟨_, rfl⟩
    try dsimp only at hw
    have hP : va_P D vwCl (mcw y ad (sI σ 115 n_3)) H := hP
    have hD : va_D A (mcw y ad (sI σ 115 n_3)) := hD
    replace hw : 0 ≤ n_3.toInt ∧ n_3.toInt ≤ 64 := hw
    refine lv_isub hx hb dX4_decide_38 ?_
    refine lv_topi (fun i_4 ei_4 => ?_)
    refine x_callvW (va_runV (As := [.int i_4]) (rest := []) ⟨hx, hb, hml, hown, hts⟩ (mc_push l D y H.size ad (sI σ 115 n_3) i_4 (show 0 ≤ (n_3).toInt from by first | omega | decide) (show (n_3).toInt ≤ 64 from by first | omega | decide)) (cwV 1 hts g_mc_decide_1 rfl rfl rfl (by decide +kernel) ⟨Nat.le_of_ble_eq_true rfl, Nat.le_of_ble_eq_true rfl⟩) (x_preV (q := (RX4, TX4, 6)) hK hP hD (ci := 3) (q0 := 0) rfl mcw_o0) rfl rfl hl.1 rfl (lv_room (Nat.le_of_ble_eq_true rfl)) dX4_decide_39 ⟨Nat.le_of_ble_eq_true rfl, Nat.le_of_ble_eq_true rfl⟩) hP hD hS hA (fun u H locs hw hP hD hS => ?_)
    obtain ⟨f_5, n_6⟩ := u
    try dsimp only at hw
    have hP : va_P D vwCl (mcw y ad (sI (tI (sI σ 115 n_3) 111 f_5) 115 n_6)) H := hP
    have hD : va_D A (mcw y ad (sI (tI (sI σ 115 n_3) 111 f_5) 115 n_6)) := hD
    replace hw : 0 ≤ n_6.toInt ∧ n_6.toInt ≤ 64 := hw
    refine lv_goto (tgt := 97) hx hb dX4_decide_42 (by decide) ?_
    have hP : va_P D vwCl (mcw y ad (sI (sJ (sI (sI (tI (sI (sI (tJ (tI (tI (tI (sI (sI (tI (tI σ 111 f_5) 112 (σ.2.2.1 112)) 115 n_6) 116 (σ.1 116)) 132 (σ.2.2.1 132)) 133 (σ.2.2.1 133)) 134 (σ.2.2.1 134)) 131 (σ.2.2.2 131)) 139 (σ.1 139)) 140 (σ.1 140)) 135 (σ.2.2.1 135)) 141 (σ.1 141)) 142 (σ.1 142)) 143 (σ.2.1 143)) 136 (σ.1 136))) H := hP
    have hD : va_D A (mcw y ad (sI (sJ (sI (sI (tI (sI (sI (tJ (tI (tI (tI (sI (sI (tI (tI σ 111 f_5) 112 (σ.2.2.1 112)) 115 n_6) 116 (σ.1 116)) 132 (σ.2.2.1 132)) 133 (σ.2.2.1 133)) 134 (σ.2.2.1 134)) 131 (σ.2.2.2 131)) 139 (σ.1 139)) 140 (σ.1 140)) 135 (σ.2.2.1 135)) 141 (σ.1 141)) 142 (σ.1 142)) 143 (σ.2.1 143)) 136 (σ.1 136))) := hD
    exact x_vretW (u := (f_5, (σ.2.2.1 112), n_6, (σ.1 116), (σ.2.2.1 132), (σ.2.2.1 133), (σ.2.2.1 134), (σ.2.2.2 131), (σ.1 139), (σ.1 140), (σ.2.2.1 135), (σ.1 141), (σ.1 142), (σ.2.1 143), (σ.1 136))) hx hb hr hQ (by (try dsimp only); exact ⟨⟨by omega, by omega, by omega, by omega, by omega, by omega⟩, hB133, hB134, hB135⟩) hP hD hK hS dX4_decide_97 hlocks
  · refine lv_tableIn (tgt := 45) hx hb dX4_decide_1 (by decide) (by decide) rfl (by decide) ?_
    refine lv_aload_n hx hb dX4_decide_45 rfl (lv_at hl 0 rfl) ?_
    refine lv_aload_n hx hb dX4_decide_46 rfl (lv_at hl 0 rfl) ?_
    refine x_calliW (va_runV (As := []) (rest := [.ref (ad 110)]) ⟨hx, hb, hml, hown, hts⟩ (mc_pop l D y H.size ad σ (show 0 ≤ ((σ.1 115)).toInt from by first | omega | decide) (show ((σ.1 115)).toInt ≤ 64 from by first | omega | decide)) (cwV 0 hts g_mc_decide_0 rfl rfl rfl (by decide +kernel) ⟨Nat.le_of_ble_eq_true rfl, Nat.le_of_ble_eq_true rfl⟩) (x_preV (q := (RX4, TX4, 6)) hK hP hD (ci := 3) (q0 := 0) rfl mcw_o0) rfl rfl hl.1 rfl (lv_room (Nat.le_of_ble_eq_true rfl)) dX4_decide_47 ⟨Nat.le_of_ble_eq_true rfl, Nat.le_of_ble_eq_true rfl⟩) hP hD hS hA (fun r_7 u H locs hw hP hD hS => ?_)
    obtain ⟨n_8, rfl⟩ : ∃ z9, z9 = u := ⟨_, rfl⟩
    try dsimp only at hw
    have hP : va_P D vwCl (mcw y ad (sI σ 115 n_8)) H := hP
    have hD : va_D A (mcw y ad (sI σ 115 n_8)) := hD
    replace hw : 0 ≤ n_8.toInt ∧ n_8.toInt ≤ 64 := hw
    refine lv_aload_n hx hb dX4_decide_50 rfl (lv_at hl 0 rfl) ?_
    refine x_calliW (va_runV (As := []) (rest := [.int r_7, .ref (ad 110)]) ⟨hx, hb, hml, hown, hts⟩ (mc_pop l D y H.size ad (sI σ 115 n_8) (show 0 ≤ (n_8).toInt from by first | omega | decide) (show (n_8).toInt ≤ 64 from by first | omega | decide)) (cwV 0 hts g_mc_decide_0 rfl rfl rfl (by decide +kernel) ⟨Nat.le_of_ble_eq_true rfl, Nat.le_of_ble_eq_true rfl⟩) (x_preV (q := (RX4, TX4, 6)) hK hP hD (ci := 3) (q0 := 0) rfl mcw_o0) rfl rfl hl.1 rfl (lv_room (Nat.le_of_ble_eq_true rfl)) dX4_decide_51 ⟨Nat.le_of_ble_eq_true rfl, Nat.le_of_ble_eq_true rfl⟩) hP hD hS hA (fun r_9 u H locs hw hP hD hS => ?_)
    obtain ⟨n_10, rfl⟩ : ∃ z9, z9 = u := ⟨_, rfl⟩
    try dsimp only at hw
    have hP : va_P D vwCl (mcw y ad (sI (sI σ 115 n_8) 115 n_10)) H := hP
    have hD : va_D A (mcw y ad (sI (sI σ 115 n_8) 115 n_10)) := hD
    replace hw : 0 ≤ n_10.toInt ∧ n_10.toInt ≤ 64 := hw
    refine lv_iand hx hb dX4_decide_54 ?_
    refine lv_topi (fun i_11 ei_11 => ?_)
    refine x_callvW (va_runV (As := [.int i_11]) (rest := []) ⟨hx, hb, hml, hown, hts⟩ (mc_push l D y H.size ad (sI (sI σ 115 n_8) 115 n_10) i_11 (show 0 ≤ (n_10).toInt from by first | omega | decide) (show (n_10).toInt ≤ 64 from by first | omega | decide)) (cwV 1 hts g_mc_decide_1 rfl rfl rfl (by decide +kernel) ⟨Nat.le_of_ble_eq_true rfl, Nat.le_of_ble_eq_true rfl⟩) (x_preV (q := (RX4, TX4, 6)) hK hP hD (ci := 3) (q0 := 0) rfl mcw_o0) rfl rfl hl.1 rfl (lv_room (Nat.le_of_ble_eq_true rfl)) dX4_decide_55 ⟨Nat.le_of_ble_eq_true rfl, Nat.le_of_ble_eq_true rfl⟩) hP hD hS hA (fun u H locs hw hP hD hS => ?_)
    obtain ⟨f_12, n_13⟩ := u
    try dsimp only at hw
    have hP : va_P D vwCl (mcw y ad (sI (tI (sI (sI σ 115 n_8) 115 n_10) 111 f_12) 115 n_13)) H := hP
    have hD : va_D A (mcw y ad (sI (tI (sI (sI σ 115 n_8) 115 n_10) 111 f_12) 115 n_13)) := hD
    replace hw : 0 ≤ n_13.toInt ∧ n_13.toInt ≤ 64 := hw
    refine lv_goto (tgt := 97) hx hb dX4_decide_58 (by decide) ?_
    have hP : va_P D vwCl (mcw y ad (sI (sJ (sI (sI (tI (sI (sI (tJ (tI (tI (tI (sI (sI (tI (tI σ 111 f_12) 112 (σ.2.2.1 112)) 115 n_13) 116 (σ.1 116)) 132 (σ.2.2.1 132)) 133 (σ.2.2.1 133)) 134 (σ.2.2.1 134)) 131 (σ.2.2.2 131)) 139 (σ.1 139)) 140 (σ.1 140)) 135 (σ.2.2.1 135)) 141 (σ.1 141)) 142 (σ.1 142)) 143 (σ.2.1 143)) 136 (σ.1 136))) H := hP
    have hD : va_D A (mcw y ad (sI (sJ (sI (sI (tI (sI (sI (tJ (tI (tI (tI (sI (sI (tI (tI σ 111 f_12) 112 (σ.2.2.1 112)) 115 n_13) 116 (σ.1 116)) 132 (σ.2.2.1 132)) 133 (σ.2.2.1 133)) 134 (σ.2.2.1 134)) 131 (σ.2.2.2 131)) 139 (σ.1 139)) 140 (σ.1 140)) 135 (σ.2.2.1 135)) 141 (σ.1 141)) 142 (σ.1 142)) 143 (σ.2.1 143)) 136 (σ.1 136))) := hD
    exact x_vretW (u := (f_12, (σ.2.2.1 112), n_13, (σ.1 116), (σ.2.2.1 132), (σ.2.2.1 133), (σ.2.2.1 134), (σ.2.2.2 131), (σ.1 139), (σ.1 140), (σ.2.2.1 135), (σ.1 141), (σ.1 142), (σ.2.1 143), (σ.1 136))) hx hb hr hQ (by (try dsimp only); exact ⟨⟨by omega, by omega, by omega, by omega, by omega, by omega⟩, hB133, hB134, hB135⟩) hP hD hK hS dX4_decide_97 hlocks
  · refine lv_tableIn (tgt := 61) hx hb dX4_decide_1 (by decide) (by decide) rfl (by decide) ?_
    refine lv_aload_n hx hb dX4_decide_61 rfl (lv_at hl 0 rfl) ?_
    refine lv_aload_n hx hb dX4_decide_62 rfl (lv_at hl 0 rfl) ?_
    refine x_calliW (va_runV (As := []) (rest := [.ref (ad 110)]) ⟨hx, hb, hml, hown, hts⟩ (mc_pop l D y H.size ad σ (show 0 ≤ ((σ.1 115)).toInt from by first | omega | decide) (show ((σ.1 115)).toInt ≤ 64 from by first | omega | decide)) (cwV 0 hts g_mc_decide_0 rfl rfl rfl (by decide +kernel) ⟨Nat.le_of_ble_eq_true rfl, Nat.le_of_ble_eq_true rfl⟩) (x_preV (q := (RX4, TX4, 6)) hK hP hD (ci := 3) (q0 := 0) rfl mcw_o0) rfl rfl hl.1 rfl (lv_room (Nat.le_of_ble_eq_true rfl)) dX4_decide_63 ⟨Nat.le_of_ble_eq_true rfl, Nat.le_of_ble_eq_true rfl⟩) hP hD hS hA (fun r_14 u H locs hw hP hD hS => ?_)
    obtain ⟨n_15, rfl⟩ : ∃ z9, z9 = u := ⟨_, rfl⟩
    try dsimp only at hw
    have hP : va_P D vwCl (mcw y ad (sI σ 115 n_15)) H := hP
    have hD : va_D A (mcw y ad (sI σ 115 n_15)) := hD
    replace hw : 0 ≤ n_15.toInt ∧ n_15.toInt ≤ 64 := hw
    refine lv_aload_n hx hb dX4_decide_66 rfl (lv_at hl 0 rfl) ?_
    refine x_calliW (va_runV (As := []) (rest := [.int r_14, .ref (ad 110)]) ⟨hx, hb, hml, hown, hts⟩ (mc_pop l D y H.size ad (sI σ 115 n_15) (show 0 ≤ (n_15).toInt from by first | omega | decide) (show (n_15).toInt ≤ 64 from by first | omega | decide)) (cwV 0 hts g_mc_decide_0 rfl rfl rfl (by decide +kernel) ⟨Nat.le_of_ble_eq_true rfl, Nat.le_of_ble_eq_true rfl⟩) (x_preV (q := (RX4, TX4, 6)) hK hP hD (ci := 3) (q0 := 0) rfl mcw_o0) rfl rfl hl.1 rfl (lv_room (Nat.le_of_ble_eq_true rfl)) dX4_decide_67 ⟨Nat.le_of_ble_eq_true rfl, Nat.le_of_ble_eq_true rfl⟩) hP hD hS hA (fun r_16 u H locs hw hP hD hS => ?_)
    obtain ⟨n_17, rfl⟩ : ∃ z9, z9 = u := ⟨_, rfl⟩
    try dsimp only at hw
    have hP : va_P D vwCl (mcw y ad (sI (sI σ 115 n_15) 115 n_17)) H := hP
    have hD : va_D A (mcw y ad (sI (sI σ 115 n_15) 115 n_17)) := hD
    replace hw : 0 ≤ n_17.toInt ∧ n_17.toInt ≤ 64 := hw
    refine lv_ior hx hb dX4_decide_70 ?_
    refine lv_topi (fun i_18 ei_18 => ?_)
    refine x_callvW (va_runV (As := [.int i_18]) (rest := []) ⟨hx, hb, hml, hown, hts⟩ (mc_push l D y H.size ad (sI (sI σ 115 n_15) 115 n_17) i_18 (show 0 ≤ (n_17).toInt from by first | omega | decide) (show (n_17).toInt ≤ 64 from by first | omega | decide)) (cwV 1 hts g_mc_decide_1 rfl rfl rfl (by decide +kernel) ⟨Nat.le_of_ble_eq_true rfl, Nat.le_of_ble_eq_true rfl⟩) (x_preV (q := (RX4, TX4, 6)) hK hP hD (ci := 3) (q0 := 0) rfl mcw_o0) rfl rfl hl.1 rfl (lv_room (Nat.le_of_ble_eq_true rfl)) dX4_decide_71 ⟨Nat.le_of_ble_eq_true rfl, Nat.le_of_ble_eq_true rfl⟩) hP hD hS hA (fun u H locs hw hP hD hS => ?_)
    obtain ⟨f_19, n_20⟩ := u
    try dsimp only at hw
    have hP : va_P D vwCl (mcw y ad (sI (tI (sI (sI σ 115 n_15) 115 n_17) 111 f_19) 115 n_20)) H := hP
    have hD : va_D A (mcw y ad (sI (tI (sI (sI σ 115 n_15) 115 n_17) 111 f_19) 115 n_20)) := hD
    replace hw : 0 ≤ n_20.toInt ∧ n_20.toInt ≤ 64 := hw
    refine lv_goto (tgt := 97) hx hb dX4_decide_74 (by decide) ?_
    have hP : va_P D vwCl (mcw y ad (sI (sJ (sI (sI (tI (sI (sI (tJ (tI (tI (tI (sI (sI (tI (tI σ 111 f_19) 112 (σ.2.2.1 112)) 115 n_20) 116 (σ.1 116)) 132 (σ.2.2.1 132)) 133 (σ.2.2.1 133)) 134 (σ.2.2.1 134)) 131 (σ.2.2.2 131)) 139 (σ.1 139)) 140 (σ.1 140)) 135 (σ.2.2.1 135)) 141 (σ.1 141)) 142 (σ.1 142)) 143 (σ.2.1 143)) 136 (σ.1 136))) H := hP
    have hD : va_D A (mcw y ad (sI (sJ (sI (sI (tI (sI (sI (tJ (tI (tI (tI (sI (sI (tI (tI σ 111 f_19) 112 (σ.2.2.1 112)) 115 n_20) 116 (σ.1 116)) 132 (σ.2.2.1 132)) 133 (σ.2.2.1 133)) 134 (σ.2.2.1 134)) 131 (σ.2.2.2 131)) 139 (σ.1 139)) 140 (σ.1 140)) 135 (σ.2.2.1 135)) 141 (σ.1 141)) 142 (σ.1 142)) 143 (σ.2.1 143)) 136 (σ.1 136))) := hD
    exact x_vretW (u := (f_19, (σ.2.2.1 112), n_20, (σ.1 116), (σ.2.2.1 132), (σ.2.2.1 133), (σ.2.2.1 134), (σ.2.2.2 131), (σ.1 139), (σ.1 140), (σ.2.2.1 135), (σ.1 141), (σ.1 142), (σ.2.1 143), (σ.1 136))) hx hb hr hQ (by (try dsimp only); exact ⟨⟨by omega, by omega, by omega, by omega, by omega, by omega⟩, hB133, hB134, hB135⟩) hP hD hK hS dX4_decide_97 hlocks
  · refine lv_tableIn (tgt := 77) hx hb dX4_decide_1 (by decide) (by decide) rfl (by decide) ?_
    refine lv_aload_n hx hb dX4_decide_77 rfl (lv_at hl 0 rfl) ?_
    refine x_calliW (va_runV (As := []) (rest := []) ⟨hx, hb, hml, hown, hts⟩ (mc_pop l D y H.size ad σ (show 0 ≤ ((σ.1 115)).toInt from by first | omega | decide) (show ((σ.1 115)).toInt ≤ 64 from by first | omega | decide)) (cwV 0 hts g_mc_decide_0 rfl rfl rfl (by decide +kernel) ⟨Nat.le_of_ble_eq_true rfl, Nat.le_of_ble_eq_true rfl⟩) (x_preV (q := (RX4, TX4, 6)) hK hP hD (ci := 3) (q0 := 0) rfl mcw_o0) rfl rfl hl.1 rfl (lv_room (Nat.le_of_ble_eq_true rfl)) dX4_decide_78 ⟨Nat.le_of_ble_eq_true rfl, Nat.le_of_ble_eq_true rfl⟩) hP hD hS hA (fun r_21 u H locs hw hP hD hS => ?_)
    obtain ⟨n_22, rfl⟩ : ∃ z9, z9 = u := ⟨_, rfl⟩
    try dsimp only at hw
    have hP : va_P D vwCl (mcw y ad (sI σ 115 n_22)) H := hP
    have hD : va_D A (mcw y ad (sI σ 115 n_22)) := hD
    replace hw : 0 ≤ n_22.toInt ∧ n_22.toInt ≤ 64 := hw
    refine lv_if_ne (tgt := 97) hx hb dX4_decide_81 (by decide) (fun c_23 => ?_) (fun c_23 => ?_)
    · have kc_23 : r_21.toInt ≠ 0 := by have h9 := c_23; simp only [ge_iff_le, gt_iff_lt, x_lt, x_le, x_eq, ne_eq, Int32.not_lt, Int32.not_le] at h9; simp only [Int32.reduceToInt] at h9; omega
      have hP : va_P D vwCl (mcw y ad (sI (sJ (sI (sI (tI (sI (sI (tJ (tI (tI (tI (sI (sI (tI (tI σ 111 (σ.2.2.1 111)) 112 (σ.2.2.1 112)) 115 n_22) 116 (σ.1 116)) 132 (σ.2.2.1 132)) 133 (σ.2.2.1 133)) 134 (σ.2.2.1 134)) 131 (σ.2.2.2 131)) 139 (σ.1 139)) 140 (σ.1 140)) 135 (σ.2.2.1 135)) 141 (σ.1 141)) 142 (σ.1 142)) 143 (σ.2.1 143)) 136 (σ.1 136))) H := hP
      have hD : va_D A (mcw y ad (sI (sJ (sI (sI (tI (sI (sI (tJ (tI (tI (tI (sI (sI (tI (tI σ 111 (σ.2.2.1 111)) 112 (σ.2.2.1 112)) 115 n_22) 116 (σ.1 116)) 132 (σ.2.2.1 132)) 133 (σ.2.2.1 133)) 134 (σ.2.2.1 134)) 131 (σ.2.2.2 131)) 139 (σ.1 139)) 140 (σ.1 140)) 135 (σ.2.2.1 135)) 141 (σ.1 141)) 142 (σ.1 142)) 143 (σ.2.1 143)) 136 (σ.1 136))) := hD
      exact x_vretW (u := ((σ.2.2.1 111), (σ.2.2.1 112), n_22, (σ.1 116), (σ.2.2.1 132), (σ.2.2.1 133), (σ.2.2.1 134), (σ.2.2.2 131), (σ.1 139), (σ.1 140), (σ.2.2.1 135), (σ.1 141), (σ.1 142), (σ.2.1 143), (σ.1 136))) hx hb hr hQ (by (try dsimp only); exact ⟨⟨by omega, by omega, by omega, by omega, by omega, by omega⟩, hB133, hB134, hB135⟩) hP hD hK hS dX4_decide_97 hlocks
    · have kc_23 : r_21.toInt = 0 := by have h9 := c_23; simp only [ge_iff_le, gt_iff_lt, x_lt, x_le, x_eq, ne_eq, Int32.not_lt, Int32.not_le] at h9; simp only [Int32.reduceToInt] at h9; omega
      refine lv_aload_n hx hb dX4_decide_84 rfl (lv_at hl 0 rfl) ?_
      refine lv_iload_n hx hb dX4_decide_85 rfl (lv_at hl 2 rfl) ?_
      refine va_put (D := D) (ci := 3) (v := .int z) (ty := .int) (C := RX4) (T := TX4) (N := 6) hx hb hts inX4 tyX4 tyX4_ok nmX4 hown hK hP hD hS 0 mcw_o0 rfl 5 (by decide) fl32 (fun _ h9 => h9) rfl (by decide +kernel) rfl rfl (Nat.le_of_ble_eq_true rfl) dX4_decide_86 (fun H locs hP hD hS => ?_)
      have hP : va_P D vwCl (mcw y ad (sI (sI σ 115 n_22) 116 z)) H := x_trP hP mcw_p0_5
      have hD : va_D A (mcw y ad (sI (sI σ 115 n_22) 116 z)) := x_trD hD mcw_p0_5
      refine lv_goto (tgt := 97) hx hb dX4_decide_89 (by decide) ?_
      have hP : va_P D vwCl (mcw y ad (sI (sJ (sI (sI (tI (sI (sI (tJ (tI (tI (tI (sI (sI (tI (tI σ 111 (σ.2.2.1 111)) 112 (σ.2.2.1 112)) 115 n_22) 116 z) 132 (σ.2.2.1 132)) 133 (σ.2.2.1 133)) 134 (σ.2.2.1 134)) 131 (σ.2.2.2 131)) 139 (σ.1 139)) 140 (σ.1 140)) 135 (σ.2.2.1 135)) 141 (σ.1 141)) 142 (σ.1 142)) 143 (σ.2.1 143)) 136 (σ.1 136))) H := hP
      have hD : va_D A (mcw y ad (sI (sJ (sI (sI (tI (sI (sI (tJ (tI (tI (tI (sI (sI (tI (tI σ 111 (σ.2.2.1 111)) 112 (σ.2.2.1 112)) 115 n_22) 116 z) 132 (σ.2.2.1 132)) 133 (σ.2.2.1 133)) 134 (σ.2.2.1 134)) 131 (σ.2.2.2 131)) 139 (σ.1 139)) 140 (σ.1 140)) 135 (σ.2.2.1 135)) 141 (σ.1 141)) 142 (σ.1 142)) 143 (σ.2.1 143)) 136 (σ.1 136))) := hD
      exact x_vretW (u := ((σ.2.2.1 111), (σ.2.2.1 112), n_22, z, (σ.2.2.1 132), (σ.2.2.1 133), (σ.2.2.1 134), (σ.2.2.2 131), (σ.1 139), (σ.1 140), (σ.2.2.1 135), (σ.1 141), (σ.1 142), (σ.2.1 143), (σ.1 136))) hx hb hr hQ (by (try dsimp only); exact ⟨⟨by omega, by omega, by omega, by omega, by omega, by omega⟩, hB133, hB134, hB135⟩) hP hD hK hS dX4_decide_97 hlocks
  · refine lv_tableOut (tgt := 92) hx hb dX4_decide_1 g_1 (by decide) ?_
    refine lv_aload_n hx hb dX4_decide_92 rfl (lv_at hl 0 rfl) ?_
    refine lv_iload_n hx hb dX4_decide_93 rfl (lv_at hl 2 rfl) ?_
    refine va_put (D := D) (ci := 3) (v := .int z) (ty := .int) (C := RX4) (T := TX4) (N := 6) hx hb hts inX4 tyX4 tyX4_ok nmX4 hown hK hP hD hS 0 mcw_o0 rfl 5 (by decide) fl32 (fun _ h9 => h9) rfl (by decide +kernel) rfl rfl (Nat.le_of_ble_eq_true rfl) dX4_decide_94 (fun H locs hP hD hS => ?_)
    have hP : va_P D vwCl (mcw y ad (sI σ 116 z)) H := x_trP hP mcw_p0_5
    have hD : va_D A (mcw y ad (sI σ 116 z)) := x_trD hD mcw_p0_5
    have hP : va_P D vwCl (mcw y ad (sI (sJ (sI (sI (tI (sI (sI (tJ (tI (tI (tI (sI (sI (tI (tI σ 111 (σ.2.2.1 111)) 112 (σ.2.2.1 112)) 115 (σ.1 115)) 116 z) 132 (σ.2.2.1 132)) 133 (σ.2.2.1 133)) 134 (σ.2.2.1 134)) 131 (σ.2.2.2 131)) 139 (σ.1 139)) 140 (σ.1 140)) 135 (σ.2.2.1 135)) 141 (σ.1 141)) 142 (σ.1 142)) 143 (σ.2.1 143)) 136 (σ.1 136))) H := hP
    have hD : va_D A (mcw y ad (sI (sJ (sI (sI (tI (sI (sI (tJ (tI (tI (tI (sI (sI (tI (tI σ 111 (σ.2.2.1 111)) 112 (σ.2.2.1 112)) 115 (σ.1 115)) 116 z) 132 (σ.2.2.1 132)) 133 (σ.2.2.1 133)) 134 (σ.2.2.1 134)) 131 (σ.2.2.2 131)) 139 (σ.1 139)) 140 (σ.1 140)) 135 (σ.2.2.1 135)) 141 (σ.1 141)) 142 (σ.1 142)) 143 (σ.2.1 143)) 136 (σ.1 136))) := hD
    exact x_vretW (u := ((σ.2.2.1 111), (σ.2.2.1 112), (σ.1 115), z, (σ.2.2.1 132), (σ.2.2.1 133), (σ.2.2.1 134), (σ.2.2.2 131), (σ.1 139), (σ.1 140), (σ.2.2.1 135), (σ.1 141), (σ.1 142), (σ.2.1 143), (σ.1 136))) hx hb hr hQ (by (try dsimp only); exact ⟨⟨by omega, by omega, by omega, by omega, by omega, by omega⟩, hB133, hB134, hB135⟩) hP hD hK hS dX4_decide_97 hlocks

def v_mc_play : List Cond := .code yX4_play cX4_play 6 (some .int) :: ([.fieldLink RX4 20 "SlopeRunner$Machine" "program" "LSlopeRunner$Program;", .fieldLink RX4 24 "SlopeRunner$Machine" "tape" "LSlopeRunner$Tape;", .fieldLink RX4 28 "SlopeRunner$Machine" "top" "I", .fieldLink RX4 32 "SlopeRunner$Machine" "at" "I", .fieldLink RX4 17 "SlopeRunner$Machine" "held" "[I", .fieldLink RX4 45 "SlopeRunner$Tape" "state" "I", .fieldLink RX4 35 "SlopeRunner$Program" "inputs" "I", .constant RX4 44 701400] ++ ((wsV RX4 48 RX6 yX6_whatAt v_p_whatAt) ++ ((wsV RX4 52 RX6 yX6_argumentAt v_p_argumentAt) ++ ((wsV RX4 63 RX4 yX4_decide v_mc_decide) ++ ((wsV RX4 59 RX4 yX4_step v_mc_step) ++ ((wsV RX4 55 RX4 yX4_moveData v_mc_moveData) ++ ((wsV RX4 38 RX8 yX8_zeroAt v_ka_zeroAt) ++ (wsX40 ++ (wsX80 ++ wsX60)))))))))
theorem g_mc_play_0 : GoodIn v_mc_play (wsV RX4 48 RX6 yX6_whatAt v_p_whatAt) := goodIn_sub (fun w h => List.mem_cons_of_mem _ (List.mem_append_right _ (List.mem_append_left _ h))) (by decide +kernel)
theorem g_mc_play_1 : GoodIn v_mc_play (wsV RX4 52 RX6 yX6_argumentAt v_p_argumentAt) := goodIn_sub (fun w h => List.mem_cons_of_mem _ (List.mem_append_right _ (List.mem_append_right _ (List.mem_append_left _ h)))) (by decide +kernel)
theorem g_mc_play_2 : GoodIn v_mc_play (wsV RX4 63 RX4 yX4_decide v_mc_decide) := goodIn_sub (fun w h => List.mem_cons_of_mem _ (List.mem_append_right _ (List.mem_append_right _ (List.mem_append_right _ (List.mem_append_left _ h))))) (by decide +kernel)
theorem g_mc_play_3 : GoodIn v_mc_play (wsV RX4 59 RX4 yX4_step v_mc_step) := goodIn_sub (fun w h => List.mem_cons_of_mem _ (List.mem_append_right _ (List.mem_append_right _ (List.mem_append_right _ (List.mem_append_right _ (List.mem_append_left _ h)))))) (by decide +kernel)
theorem g_mc_play_4 : GoodIn v_mc_play (wsV RX4 55 RX4 yX4_moveData v_mc_moveData) := goodIn_sub (fun w h => List.mem_cons_of_mem _ (List.mem_append_right _ (List.mem_append_right _ (List.mem_append_right _ (List.mem_append_right _ (List.mem_append_right _ (List.mem_append_left _ h))))))) (by decide +kernel)
theorem g_mc_play_5 : GoodIn v_mc_play (wsV RX4 38 RX8 yX8_zeroAt v_ka_zeroAt) := goodIn_sub (fun w h => List.mem_cons_of_mem _ (List.mem_append_right _ (List.mem_append_right _ (List.mem_append_right _ (List.mem_append_right _ (List.mem_append_right _ (List.mem_append_right _ (List.mem_append_left _ h)))))))) (by decide +kernel)
set_option maxHeartbeats 4000000 in
set_option maxRecDepth 100000 in
theorem mc_play (l : Launch) (D : va_G) (y : Nat → ClassId) (sz : Nat) (ad : Nat → Nat) (pv : Value) (tv : Value) (σ : OS) (hsize0 : 0 ≤ (σ.1 139).toInt) (hsize1 : (σ.1 139).toInt ≤ 1359) (hresults0 : 0 ≤ (σ.1 141).toInt) (hresults1 : (σ.1 141).toInt ≤ 12) (hinputs0 : 0 ≤ (σ.1 137).toInt) (hinputs1 : (σ.1 137).toInt ≤ 8) (hplength0 : 0 ≤ (σ.1 86).toInt) (hplength1 : (σ.1 86).toInt ≤ 700) (hprows0 : 0 ≤ (σ.1 82).toInt) (hprows1 : (σ.1 82).toInt ≤ 4)  (hB133 : bI (σ.2.2.1 133) 0 1358) (hB134 : bI (σ.2.2.1 134) 0 1358) (hB135 : bI (σ.2.2.1 135) 0 1358) : Met l yX4_play v_mc_play ({ frames := 6, cells := 0, slots := 0, locals := 169 } : Room) (va_Pc [.ref (ad 110), .ref (ad 80), .ref (ad 130)] (xPre D (xT y) (mc0 y ad pv tv σ) sz)) (va_Qi (fun (r : Int32) (u : (Nat → Int32) × (Nat → Int32) × Int32 × Int32 × (Nat → Int32) × (Nat → Int32) × (Nat → Int32) × (Nat → Int64) × Int32 × Int32 × (Nat → Int32) × Int32 × Int32 × Int64 × Int32) => (0 ≤ u.2.2.1.toInt ∧ u.2.2.1.toInt ≤ 64 ∧ 0 ≤ u.2.2.2.2.2.2.2.2.1.toInt ∧ u.2.2.2.2.2.2.2.2.1.toInt ≤ 1359 ∧ 0 ≤ u.2.2.2.2.2.2.2.2.2.2.2.1.toInt ∧ u.2.2.2.2.2.2.2.2.2.2.2.1.toInt ≤ 12) ∧ bI u.2.2.2.2.2.1 0 1358 ∧ bI u.2.2.2.2.2.2.1 0 1358 ∧ bI u.2.2.2.2.2.2.2.2.2.2.1 0 1358) (fun (u : (Nat → Int32) × (Nat → Int32) × Int32 × Int32 × (Nat → Int32) × (Nat → Int32) × (Nat → Int32) × (Nat → Int64) × Int32 × Int32 × (Nat → Int32) × Int32 × Int32 × Int64 × Int32) => xB D (xT y) (va_A (mc0 y ad pv tv σ) sz) (mc0 y ad (.ref (ad 80)) (.ref (ad 130)) (sI (sJ (sI (sI (tI (sI (sI (tJ (tI (tI (tI (sI (sI (tI (tI σ 111 u.1) 112 u.2.1) 115 u.2.2.1) 116 u.2.2.2.1) 132 u.2.2.2.2.1) 133 u.2.2.2.2.2.1) 134 u.2.2.2.2.2.2.1) 131 u.2.2.2.2.2.2.2.1) 139 u.2.2.2.2.2.2.2.2.1) 140 u.2.2.2.2.2.2.2.2.2.1) 135 u.2.2.2.2.2.2.2.2.2.2.1) 141 u.2.2.2.2.2.2.2.2.2.2.2.1) 142 u.2.2.2.2.2.2.2.2.2.2.2.2.1) 143 u.2.2.2.2.2.2.2.2.2.2.2.2.2.1) 136 u.2.2.2.2.2.2.2.2.2.2.2.2.2.2))) (va_A (mc0 y ad pv tv σ) sz)) 0 0 (va_A (mc0 y ad pv tv σ) sz) := by
  refine x_meti (cc := cX4_play) (maxL := 6) (by decide) rfl (Nat.le_of_ble_eq_true rfl) ?_
  intro p e s m below meth c A H locs Q hx hb hml hown hts hr hlocks hmn hA hP hK hD hS ls hl hQ
  have hl : lv_has ls 6 [(0, .ref (ad 110)), (1, .ref (ad 80)), (2, .ref (ad 130))] := hl
  have fl20 := hts (.fieldLink RX4 20 "SlopeRunner$Machine" "program" "LSlopeRunner$Program;") (List.mem_of_getElem? (i := 1) rfl)
  have inX4 : ∀ w ∈ wsX40, w ∈ v_mc_play := (fun w h => List.mem_cons_of_mem _ (List.mem_append_right _ (List.mem_append_right _ (List.mem_append_right _ (List.mem_append_right _ (List.mem_append_right _ (List.mem_append_right _ (List.mem_append_right _ (List.mem_append_left _ h)))))))))
  have fl24 := hts (.fieldLink RX4 24 "SlopeRunner$Machine" "tape" "LSlopeRunner$Tape;") (List.mem_of_getElem? (i := 2) rfl)
  have fl28 := hts (.fieldLink RX4 28 "SlopeRunner$Machine" "top" "I") (List.mem_of_getElem? (i := 3) rfl)
  have fl32 := hts (.fieldLink RX4 32 "SlopeRunner$Machine" "at" "I") (List.mem_of_getElem? (i := 4) rfl)
  have fl17 := hts (.fieldLink RX4 17 "SlopeRunner$Machine" "held" "[I") (List.mem_of_getElem? (i := 5) rfl)
  have kk_84 : (84 : Int32).toInt = 84 := rfl
  have kk_701400 : (701400 : Int32).toInt = 701400 := rfl
  have fl45 := hts (.fieldLink RX4 45 "SlopeRunner$Tape" "state" "I") (List.mem_of_getElem? (i := 6) rfl)
  have inX8 : ∀ w ∈ wsX80, w ∈ v_mc_play := (fun w h => List.mem_cons_of_mem _ (List.mem_append_right _ (List.mem_append_right _ (List.mem_append_right _ (List.mem_append_right _ (List.mem_append_right _ (List.mem_append_right _ (List.mem_append_right _ (List.mem_append_right _ (List.mem_append_left _ h))))))))))
  have kk_m2 : ((-2) : Int32).toInt = -2 := rfl
  have kk_m1 : ((-1) : Int32).toInt = -1 := rfl
  have kk_5 : (5 : Int32).toInt = 5 := rfl
  have kk_15 : (15 : Int32).toInt = 15 := rfl
  have kk_1 : (1 : Int32).toInt = 1 := rfl
  have fl35 := hts (.fieldLink RX4 35 "SlopeRunner$Program" "inputs" "I") (List.mem_of_getElem? (i := 7) rfl)
  have inX6 : ∀ w ∈ wsX60, w ∈ v_mc_play := (fun w h => List.mem_cons_of_mem _ (List.mem_append_right _ (List.mem_append_right _ (List.mem_append_right _ (List.mem_append_right _ (List.mem_append_right _ (List.mem_append_right _ (List.mem_append_right _ (List.mem_append_right _ (List.mem_append_right _ h))))))))))
  refine lv_aload_n hx hb dX4_play_0 rfl (lv_at hl 0 rfl) ?_
  refine lv_aload_n hx hb dX4_play_1 rfl (lv_at hl 1 rfl) ?_
  refine va_put (D := D) (ci := 3) (v := .ref (ad 80)) (ty := (.object "SlopeRunner$Program")) (C := RX4) (T := TX4) (N := 6) hx hb hts inX4 tyX4 tyX4_ok nmX4 hown hK hP hD hS 0 mc0_o0 rfl 2 (by decide) fl20 (fun _ h9 => h9) rfl (by decide +kernel) rfl rfl (Nat.le_of_ble_eq_true rfl) dX4_play_2 (fun H locs hP hD hS => ?_)
  have hP : va_P D vwCl (mc0 y ad (.ref (ad 80)) tv σ) H := x_trP hP mc0_p0_2
  have hD : va_D A (mc0 y ad (.ref (ad 80)) tv σ) := x_trD hD mc0_p0_2
  refine lv_aload_n hx hb dX4_play_5 rfl (lv_at hl 0 rfl) ?_
  refine lv_aload_n hx hb dX4_play_6 rfl (lv_at hl 2 rfl) ?_
  refine va_put (D := D) (ci := 3) (v := .ref (ad 130)) (ty := (.object "SlopeRunner$Tape")) (C := RX4) (T := TX4) (N := 6) hx hb hts inX4 tyX4 tyX4_ok nmX4 hown hK hP hD hS 0 mc0_o0 rfl 3 (by decide) fl24 (fun _ h9 => h9) rfl (by decide +kernel) rfl rfl (Nat.le_of_ble_eq_true rfl) dX4_play_7 (fun H locs hP hD hS => ?_)
  have hP : va_P D vwCl (mc0 y ad (.ref (ad 80)) (.ref (ad 130)) σ) H := x_trP hP mc0_p0_3
  have hD : va_D A (mc0 y ad (.ref (ad 80)) (.ref (ad 130)) σ) := x_trD hD mc0_p0_3
  have hP : va_P D vwCl (mcw y ad σ) H := hP
  have hD : va_D A (mcw y ad σ) := hD
  refine lv_aload_n hx hb dX4_play_10 rfl (lv_at hl 0 rfl) ?_
  refine lv_iconst (v := 0) hx hb dX4_play_11 (by decide) ?_
  refine va_put (D := D) (ci := 3) (v := .int 0) (ty := .int) (C := RX4) (T := TX4) (N := 6) hx hb hts inX4 tyX4 tyX4_ok nmX4 hown hK hP hD hS 0 mcw_o0 rfl 4 (by decide) fl28 (fun _ h9 => h9) rfl (by decide +kernel) rfl rfl (Nat.le_of_ble_eq_true rfl) dX4_play_12 (fun H locs hP hD hS => ?_)
  have hP : va_P D vwCl (mcw y ad (sI σ 115 0)) H := x_trP hP mcw_p0_4
  have hD : va_D A (mcw y ad (sI σ 115 0)) := x_trD hD mcw_p0_4
  refine lv_aload_n hx hb dX4_play_15 rfl (lv_at hl 0 rfl) ?_
  refine lv_iconst (v := 0) hx hb dX4_play_16 (by decide) ?_
  refine va_put (D := D) (ci := 3) (v := .int 0) (ty := .int) (C := RX4) (T := TX4) (N := 6) hx hb hts inX4 tyX4 tyX4_ok nmX4 hown hK hP hD hS 0 mcw_o0 rfl 5 (by decide) fl32 (fun _ h9 => h9) rfl (by decide +kernel) rfl rfl (Nat.le_of_ble_eq_true rfl) dX4_play_17 (fun H locs hP hD hS => ?_)
  have hP : va_P D vwCl (mcw y ad (sI (sI σ 115 0) 116 0)) H := x_trP hP mcw_p0_5
  have hD : va_D A (mcw y ad (sI (sI σ 115 0) 116 0)) := x_trD hD mcw_p0_5
  refine lv_iconst (v := 0) hx hb dX4_play_20 (by decide) ?_
  refine lv_istore_n (lv' := [(3, .int 0), (0, .ref (ad 110)), (1, .ref (ad 80)), (2, .ref (ad 130))]) hx hb dX4_play_21 rfl hl (by decide) rfl (fun ls hl => ?_)
  have l00 : (0 : Int32).toInt = 0 := rfl
  have hP : va_P D vwCl (mcw y ad (tI (sI (sI σ 115 0) 116 0) 112 (σ.2.2.1 112))) H := hP
  have hD : va_D A (mcw y ad (tI (sI (sI σ 115 0) 116 0) 112 (σ.2.2.1 112))) := hD
  have loop : ∀ (fu : Nat) (i : Int32) (fh : Nat → Int32) (H : Heap) (locs : List Loc) (ls : Array Slot), (0 ≤ i.toInt) → (i.toInt ≤ 84) → (84 - i.toInt < (fu : Int)) → va_P D vwCl (mcw y ad (tI (sI (sI σ 115 0) 116 0) 112 fh)) H → va_D A (mcw y ad (tI (sI (sI σ 115 0) 116 0) 112 fh)) → va_S A s.heap H locs → lv_has ls 6 [(3, .int i), (2, .ref (ad 130)), (1, .ref (ad 80)), (0, .ref (ad 110))] → W p l e ({ frames := 6, cells := 0, slots := 0, locals := 169 } : Room) s m ([.ref (ad 110), .ref (ad 80), .ref (ad 130)] : List Value).toArray below meth c H locs 0 0 Q (F0 m 22 ls []) := by
    intro fu
    induction fu with
    | zero =>
      intro i fh H locs ls hi0 hi1 hm
      exact absurd hm (by omega)
    | succ fu ih_loop =>
      intro i fh H locs ls hi0 hi1 hm hP hD hS hl
      refine lv_iload_n hx hb dX4_play_22 rfl (lv_at hl 0 rfl) ?_
      refine lv_aload_n hx hb dX4_play_23 rfl (lv_at hl 3 rfl) ?_
      refine va_get (D := D) (ci := 3) (v := .ref (ad 112)) (C := RX4) (T := TX4) (N := 6) hx hb hts inX4 hown hK hP 0 mcw_o0 rfl 1 (by decide) fl17 (fun _ h9 => h9) rfl dX4_play_24 ?_
      refine va_alen hx hb hK hP 4 2 mcw_a4 rfl (v := 84) rfl dX4_play_27 ?_
      refine lv_icmp_ge (tgt := 65) hx hb dX4_play_28 (by decide) (fun c_1 => ?_) (fun c_1 => ?_)
      · have kc_1 : i.toInt ≥ 84 := by have h9 := c_1; simp only [ge_iff_le, gt_iff_lt, x_lt, x_le, x_eq, ne_eq, Int32.not_lt, Int32.not_le] at h9; simp only [Int32.reduceToInt] at h9; omega
        refine lv_iconst (v := 0) hx hb dX4_play_65 (by decide) ?_
        refine lv_istore_n (lv' := [(3, .int 0), (2, .ref (ad 130)), (1, .ref (ad 80)), (0, .ref (ad 110))]) hx hb dX4_play_66 rfl hl (by decide) rfl (fun ls hl => ?_)
        have hP : va_P D vwCl (mcw y ad (sI (sJ (sI (sI (tI (sI (sI (tJ (tI (tI (tI (sI (sI (tI (tI σ 111 (σ.2.2.1 111)) 112 fh) 115 0) 116 0) 132 (σ.2.2.1 132)) 133 (σ.2.2.1 133)) 134 (σ.2.2.1 134)) 131 (σ.2.2.2 131)) 139 (σ.1 139)) 140 (σ.1 140)) 135 (σ.2.2.1 135)) 141 (σ.1 141)) 142 (σ.1 142)) 143 (σ.2.1 143)) 136 (σ.1 136))) H := hP
        have hD : va_D A (mcw y ad (sI (sJ (sI (sI (tI (sI (sI (tJ (tI (tI (tI (sI (sI (tI (tI σ 111 (σ.2.2.1 111)) 112 fh) 115 0) 116 0) 132 (σ.2.2.1 132)) 133 (σ.2.2.1 133)) 134 (σ.2.2.1 134)) 131 (σ.2.2.2 131)) 139 (σ.1 139)) 140 (σ.1 140)) 135 (σ.2.2.1 135)) 141 (σ.1 141)) 142 (σ.1 142)) 143 (σ.2.1 143)) 136 (σ.1 136))) := hD
        have loop2 : ∀ (fu : Nat) (i : Int32) (v_stack : Nat → Int32) (v_held : Nat → Int32) (v_top : Int32) (v_at : Int32) (v_kind : Nat → Int32) (v_left : Nat → Int32) (v_right : Nat → Int32) (v_value : Nat → Int64) (v_size : Int32) (v_steps : Int32) (v_given : Nat → Int32) (v_results : Int32) (v_edges : Int32) (v_nearest : Int64) (v_state : Int32) (H : Heap) (locs : List Loc) (ls : Array Slot), (0 ≤ i.toInt) → (i.toInt ≤ 701400) → (0 ≤ v_top.toInt) → (v_top.toInt ≤ 64) → (0 ≤ v_size.toInt) → (v_size.toInt ≤ 1359) → (0 ≤ v_results.toInt) → (v_results.toInt ≤ 12) → (bI v_left 0 1358) → (bI v_right 0 1358) → (bI v_given 0 1358) → (701400 - i.toInt < (fu : Int)) → va_P D vwCl (mcw y ad (sI (sJ (sI (sI (tI (sI (sI (tJ (tI (tI (tI (sI (sI (tI (tI σ 111 v_stack) 112 v_held) 115 v_top) 116 v_at) 132 v_kind) 133 v_left) 134 v_right) 131 v_value) 139 v_size) 140 v_steps) 135 v_given) 141 v_results) 142 v_edges) 143 v_nearest) 136 v_state)) H → va_D A (mcw y ad (sI (sJ (sI (sI (tI (sI (sI (tJ (tI (tI (tI (sI (sI (tI (tI σ 111 v_stack) 112 v_held) 115 v_top) 116 v_at) 132 v_kind) 133 v_left) 134 v_right) 131 v_value) 139 v_size) 140 v_steps) 135 v_given) 141 v_results) 142 v_edges) 143 v_nearest) 136 v_state)) → va_S A s.heap H locs → lv_has ls 6 [(3, .int i), (2, .ref (ad 130)), (1, .ref (ad 80)), (0, .ref (ad 110))] → W p l e ({ frames := 6, cells := 0, slots := 0, locals := 169 } : Room) s m ([.ref (ad 110), .ref (ad 80), .ref (ad 130)] : List Value).toArray below meth c H locs 0 0 Q (F0 m 67 ls []) := by
          intro fu
          induction fu with
          | zero =>
            intro i v_stack v_held v_top v_at v_kind v_left v_right v_value v_size v_steps v_given v_results v_edges v_nearest v_state H locs ls hi0 hi1 hvtop0 hvtop1 hvsize0 hvsize1 hvresults0 hvresults1 hbleft hbright hbgiven hm
            exact absurd hm (by omega)
          | succ fu ih_loop2 =>
            intro i v_stack v_held v_top v_at v_kind v_left v_right v_value v_size v_steps v_given v_results v_edges v_nearest v_state H locs ls hi0 hi1 hvtop0 hvtop1 hvsize0 hvsize1 hvresults0 hvresults1 hbleft hbright hbgiven hm hP hD hS hl
            refine lv_iload_n hx hb dX4_play_67 rfl (lv_at hl 0 rfl) ?_
            refine lv_ldc (v := 701400) hx hb hown (hts (.constant RX4 44 701400) (List.mem_of_getElem? (i := 8) rfl)) dX4_play_68 ?_
            refine lv_icmp_ge (tgt := 185) hx hb dX4_play_70 (by decide) (fun c_2 => ?_) (fun c_2 => ?_)
            · have kc_2 : i.toInt ≥ 701400 := by have h9 := c_2; simp only [ge_iff_le, gt_iff_lt, x_lt, x_le, x_eq, ne_eq, Int32.not_lt, Int32.not_le] at h9; simp only [Int32.reduceToInt] at h9; omega
              refine lv_aload_n hx hb dX4_play_185 rfl (lv_at hl 3 rfl) ?_
              refine va_get (D := D) (ci := 3) (v := .ref (ad 130)) (C := RX4) (T := TX4) (N := 6) hx hb hts inX4 hown hK hP 0 mcw_o0 rfl 3 (by decide) fl24 (fun _ h9 => h9) rfl dX4_play_186 ?_
              refine va_get (D := D) (ci := 7) (v := .int v_state) (C := RX8) (T := TX8) (N := 13) hx hb hts inX8 hown hK hP 2 mcw_o2 rfl 5 (by decide) fl45 (fun _ h9 => h9) rfl dX4_play_189 ?_
              have hP : va_P D vwCl (mc0 y ad (.ref (ad 80)) (.ref (ad 130)) (sI (sJ (sI (sI (tI (sI (sI (tJ (tI (tI (tI (sI (sI (tI (tI σ 111 v_stack) 112 v_held) 115 v_top) 116 v_at) 132 v_kind) 133 v_left) 134 v_right) 131 v_value) 139 v_size) 140 v_steps) 135 v_given) 141 v_results) 142 v_edges) 143 v_nearest) 136 v_state)) H := hP
              have hD : va_D A (mc0 y ad (.ref (ad 80)) (.ref (ad 130)) (sI (sJ (sI (sI (tI (sI (sI (tJ (tI (tI (tI (sI (sI (tI (tI σ 111 v_stack) 112 v_held) 115 v_top) 116 v_at) 132 v_kind) 133 v_left) 134 v_right) 131 v_value) 139 v_size) 140 v_steps) 135 v_given) 141 v_results) 142 v_edges) 143 v_nearest) 136 v_state)) := hD
              exact x_iretW (v := v_state) (u := (v_stack, v_held, v_top, v_at, v_kind, v_left, v_right, v_value, v_size, v_steps, v_given, v_results, v_edges, v_nearest, v_state)) hx hb hr hQ (by (try dsimp only); exact ⟨⟨by omega, by omega, by omega, by omega, by omega, by omega⟩, hbleft, hbright, hbgiven⟩) hP hD hK hS dX4_play_192 hlocks
            · have kc_2 : i.toInt < 701400 := by have h9 := c_2; simp only [ge_iff_le, gt_iff_lt, x_lt, x_le, x_eq, ne_eq, Int32.not_lt, Int32.not_le] at h9; simp only [Int32.reduceToInt] at h9; omega
              refine lv_aload_n hx hb dX4_play_73 rfl (lv_at hl 3 rfl) ?_
              refine va_get (D := D) (ci := 3) (v := .ref (ad 130)) (C := RX4) (T := TX4) (N := 6) hx hb hts inX4 hown hK hP 0 mcw_o0 rfl 3 (by decide) fl24 (fun _ h9 => h9) rfl dX4_play_74 ?_
              refine va_get (D := D) (ci := 7) (v := .int v_state) (C := RX8) (T := TX8) (N := 13) hx hb hts inX8 hown hK hP 2 mcw_o2 rfl 5 (by decide) fl45 (fun _ h9 => h9) rfl dX4_play_77 ?_
              refine lv_bipush (v := (-2)) hx hb dX4_play_80 (by decide) ?_
              refine lv_icmp_ne (tgt := 185) hx hb dX4_play_82 (by decide) (fun c_3 => ?_) (fun c_3 => ?_)
              · have kc_3 : v_state.toInt ≠ (-2) := by have h9 := c_3; simp only [ge_iff_le, gt_iff_lt, x_lt, x_le, x_eq, ne_eq, Int32.not_lt, Int32.not_le] at h9; simp only [Int32.reduceToInt] at h9; omega
                refine lv_aload_n hx hb dX4_play_185 rfl (lv_at hl 3 rfl) ?_
                refine va_get (D := D) (ci := 3) (v := .ref (ad 130)) (C := RX4) (T := TX4) (N := 6) hx hb hts inX4 hown hK hP 0 mcw_o0 rfl 3 (by decide) fl24 (fun _ h9 => h9) rfl dX4_play_186 ?_
                refine va_get (D := D) (ci := 7) (v := .int v_state) (C := RX8) (T := TX8) (N := 13) hx hb hts inX8 hown hK hP 2 mcw_o2 rfl 5 (by decide) fl45 (fun _ h9 => h9) rfl dX4_play_189 ?_
                have hP : va_P D vwCl (mc0 y ad (.ref (ad 80)) (.ref (ad 130)) (sI (sJ (sI (sI (tI (sI (sI (tJ (tI (tI (tI (sI (sI (tI (tI σ 111 v_stack) 112 v_held) 115 v_top) 116 v_at) 132 v_kind) 133 v_left) 134 v_right) 131 v_value) 139 v_size) 140 v_steps) 135 v_given) 141 v_results) 142 v_edges) 143 v_nearest) 136 v_state)) H := hP
                have hD : va_D A (mc0 y ad (.ref (ad 80)) (.ref (ad 130)) (sI (sJ (sI (sI (tI (sI (sI (tJ (tI (tI (tI (sI (sI (tI (tI σ 111 v_stack) 112 v_held) 115 v_top) 116 v_at) 132 v_kind) 133 v_left) 134 v_right) 131 v_value) 139 v_size) 140 v_steps) 135 v_given) 141 v_results) 142 v_edges) 143 v_nearest) 136 v_state)) := hD
                exact x_iretW (v := v_state) (u := (v_stack, v_held, v_top, v_at, v_kind, v_left, v_right, v_value, v_size, v_steps, v_given, v_results, v_edges, v_nearest, v_state)) hx hb hr hQ (by (try dsimp only); exact ⟨⟨by omega, by omega, by omega, by omega, by omega, by omega⟩, hbleft, hbright, hbgiven⟩) hP hD hK hS dX4_play_192 hlocks
              · have kc_3 : v_state.toInt = (-2) := by have h9 := c_3; simp only [ge_iff_le, gt_iff_lt, x_lt, x_le, x_eq, ne_eq, Int32.not_lt, Int32.not_le] at h9; simp only [Int32.reduceToInt] at h9; omega
                refine lv_aload_n hx hb dX4_play_85 rfl (lv_at hl 3 rfl) ?_
                refine va_get (D := D) (ci := 3) (v := .ref (ad 80)) (C := RX4) (T := TX4) (N := 6) hx hb hts inX4 hown hK hP 0 mcw_o0 rfl 2 (by decide) fl20 (fun _ h9 => h9) rfl dX4_play_86 ?_
                refine lv_aload_n hx hb dX4_play_89 rfl (lv_at hl 3 rfl) ?_
                refine va_get (D := D) (ci := 3) (v := .int v_at) (C := RX4) (T := TX4) (N := 6) hx hb hts inX4 hown hK hP 0 mcw_o0 rfl 5 (by decide) fl32 (fun _ h9 => h9) rfl dX4_play_90 ?_
                have hPs : va_P D vwCl (pqw y ad (sI (sJ (sI (sI (tI (sI (sI (tJ (tI (tI (tI (sI (sI (tI (tI σ 111 v_stack) 112 v_held) 115 v_top) 116 v_at) 132 v_kind) 133 v_left) 134 v_right) 131 v_value) 139 v_size) 140 v_steps) 135 v_given) 141 v_results) 142 v_edges) 143 v_nearest) 136 v_state)) H := x_suP hP [1, 5, 6, 7, 8, 9, 10] rfl
                have hDs : va_D A (pqw y ad (sI (sJ (sI (sI (tI (sI (sI (tJ (tI (tI (tI (sI (sI (tI (tI σ 111 v_stack) 112 v_held) 115 v_top) 116 v_at) 132 v_kind) 133 v_left) 134 v_right) 131 v_value) 139 v_size) 140 v_steps) 135 v_given) 141 v_results) 142 v_edges) 143 v_nearest) 136 v_state)) := x_suD hD [1, 5, 6, 7, 8, 9, 10] rfl (by decide)
                refine x_calliS (b1 := fun (u : Unit) => (mcw y ad (sI (sJ (sI (sI (tI (sI (sI (tJ (tI (tI (tI (sI (sI (tI (tI σ 111 v_stack) 112 v_held) 115 v_top) 116 v_at) 132 v_kind) 133 v_left) 134 v_right) 131 v_value) 139 v_size) 140 v_steps) 135 v_given) 141 v_results) 142 v_edges) 143 v_nearest) 136 v_state))) [1, 5, 6, 7, 8, 9, 10] (va_runV (As := [.int v_at]) (rest := []) ⟨hx, hb, hml, hown, hts⟩ (p_whatAt l D y H.size ad (sI (sJ (sI (sI (tI (sI (sI (tJ (tI (tI (tI (sI (sI (tI (tI σ 111 v_stack) 112 v_held) 115 v_top) 116 v_at) 132 v_kind) 133 v_left) 134 v_right) 131 v_value) 139 v_size) 140 v_steps) 135 v_given) 141 v_results) 142 v_edges) 143 v_nearest) 136 v_state) v_at (show 0 ≤ ((σ.1 86)).toInt from by first | omega | decide) (show ((σ.1 86)).toInt ≤ 700 from by first | omega | decide)) (cwV 1 hts g_mc_play_0 rfl rfl rfl (by decide +kernel) ⟨Nat.le_of_ble_eq_true rfl, Nat.le_of_ble_eq_true rfl⟩) (x_preV (q := (RX6, TX6, 13)) hK hPs hDs (ci := 5) (q0 := 0) rfl pqw_o0) rfl rfl hl.1 rfl (lv_room (Nat.le_of_ble_eq_true rfl)) dX4_play_93 ⟨Nat.le_of_ble_eq_true rfl, Nat.le_of_ble_eq_true rfl⟩) hP hD hS hA rfl (fun _ => rfl) (fun _ => rfl) (fun _ => rfl) (fun r_4 u H locs hw hP hD hS => ?_)
                try dsimp only at hw
                have hP : va_P D vwCl (mcw y ad (sI (sJ (sI (sI (tI (sI (sI (tJ (tI (tI (tI (sI (sI (tI (tI σ 111 v_stack) 112 v_held) 115 v_top) 116 v_at) 132 v_kind) 133 v_left) 134 v_right) 131 v_value) 139 v_size) 140 v_steps) 135 v_given) 141 v_results) 142 v_edges) 143 v_nearest) 136 v_state)) H := hP
                have hD : va_D A (mcw y ad (sI (sJ (sI (sI (tI (sI (sI (tJ (tI (tI (tI (sI (sI (tI (tI σ 111 v_stack) 112 v_held) 115 v_top) 116 v_at) 132 v_kind) 133 v_left) 134 v_right) 131 v_value) 139 v_size) 140 v_steps) 135 v_given) 141 v_results) 142 v_edges) 143 v_nearest) 136 v_state)) := hD
                refine lv_istore (lv' := [(4, .int r_4), (3, .int i), (2, .ref (ad 130)), (1, .ref (ad 80)), (0, .ref (ad 110))]) hx hb dX4_play_96 hl (by decide) rfl (fun ls hl => ?_)
                refine lv_aload_n hx hb dX4_play_98 rfl (lv_at hl 4 rfl) ?_
                refine va_get (D := D) (ci := 3) (v := .ref (ad 80)) (C := RX4) (T := TX4) (N := 6) hx hb hts inX4 hown hK hP 0 mcw_o0 rfl 2 (by decide) fl20 (fun _ h9 => h9) rfl dX4_play_99 ?_
                refine lv_aload_n hx hb dX4_play_102 rfl (lv_at hl 4 rfl) ?_
                refine va_get (D := D) (ci := 3) (v := .int v_at) (C := RX4) (T := TX4) (N := 6) hx hb hts inX4 hown hK hP 0 mcw_o0 rfl 5 (by decide) fl32 (fun _ h9 => h9) rfl dX4_play_103 ?_
                have hPs : va_P D vwCl (pqw y ad (sI (sJ (sI (sI (tI (sI (sI (tJ (tI (tI (tI (sI (sI (tI (tI σ 111 v_stack) 112 v_held) 115 v_top) 116 v_at) 132 v_kind) 133 v_left) 134 v_right) 131 v_value) 139 v_size) 140 v_steps) 135 v_given) 141 v_results) 142 v_edges) 143 v_nearest) 136 v_state)) H := x_suP hP [1, 5, 6, 7, 8, 9, 10] rfl
                have hDs : va_D A (pqw y ad (sI (sJ (sI (sI (tI (sI (sI (tJ (tI (tI (tI (sI (sI (tI (tI σ 111 v_stack) 112 v_held) 115 v_top) 116 v_at) 132 v_kind) 133 v_left) 134 v_right) 131 v_value) 139 v_size) 140 v_steps) 135 v_given) 141 v_results) 142 v_edges) 143 v_nearest) 136 v_state)) := x_suD hD [1, 5, 6, 7, 8, 9, 10] rfl (by decide)
                refine x_calliS (b1 := fun (u : Unit) => (mcw y ad (sI (sJ (sI (sI (tI (sI (sI (tJ (tI (tI (tI (sI (sI (tI (tI σ 111 v_stack) 112 v_held) 115 v_top) 116 v_at) 132 v_kind) 133 v_left) 134 v_right) 131 v_value) 139 v_size) 140 v_steps) 135 v_given) 141 v_results) 142 v_edges) 143 v_nearest) 136 v_state))) [1, 5, 6, 7, 8, 9, 10] (va_runV (As := [.int v_at]) (rest := []) ⟨hx, hb, hml, hown, hts⟩ (p_argumentAt l D y H.size ad (sI (sJ (sI (sI (tI (sI (sI (tJ (tI (tI (tI (sI (sI (tI (tI σ 111 v_stack) 112 v_held) 115 v_top) 116 v_at) 132 v_kind) 133 v_left) 134 v_right) 131 v_value) 139 v_size) 140 v_steps) 135 v_given) 141 v_results) 142 v_edges) 143 v_nearest) 136 v_state) v_at (show 0 ≤ ((σ.1 86)).toInt from by first | omega | decide) (show ((σ.1 86)).toInt ≤ 700 from by first | omega | decide)) (cwV 1 hts g_mc_play_1 rfl rfl rfl (by decide +kernel) ⟨Nat.le_of_ble_eq_true rfl, Nat.le_of_ble_eq_true rfl⟩) (x_preV (q := (RX6, TX6, 13)) hK hPs hDs (ci := 5) (q0 := 0) rfl pqw_o0) rfl rfl hl.1 rfl (lv_room (Nat.le_of_ble_eq_true rfl)) dX4_play_106 ⟨Nat.le_of_ble_eq_true rfl, Nat.le_of_ble_eq_true rfl⟩) hP hD hS hA rfl (fun _ => rfl) (fun _ => rfl) (fun _ => rfl) (fun r_5 u H locs hw hP hD hS => ?_)
                try dsimp only at hw
                have hP : va_P D vwCl (mcw y ad (sI (sJ (sI (sI (tI (sI (sI (tJ (tI (tI (tI (sI (sI (tI (tI σ 111 v_stack) 112 v_held) 115 v_top) 116 v_at) 132 v_kind) 133 v_left) 134 v_right) 131 v_value) 139 v_size) 140 v_steps) 135 v_given) 141 v_results) 142 v_edges) 143 v_nearest) 136 v_state)) H := hP
                have hD : va_D A (mcw y ad (sI (sJ (sI (sI (tI (sI (sI (tJ (tI (tI (tI (sI (sI (tI (tI σ 111 v_stack) 112 v_held) 115 v_top) 116 v_at) 132 v_kind) 133 v_left) 134 v_right) 131 v_value) 139 v_size) 140 v_steps) 135 v_given) 141 v_results) 142 v_edges) 143 v_nearest) 136 v_state)) := hD
                refine lv_istore (lv' := [(5, .int r_5), (4, .int r_4), (3, .int i), (2, .ref (ad 130)), (1, .ref (ad 80)), (0, .ref (ad 110))]) hx hb dX4_play_109 hl (by decide) rfl (fun ls hl => ?_)
                refine lv_aload_n hx hb dX4_play_111 rfl (lv_at hl 5 rfl) ?_
                refine lv_dup hx hb dX4_play_112 rfl ?_
                refine va_get (D := D) (ci := 3) (v := .int v_at) (C := RX4) (T := TX4) (N := 6) hx hb hts inX4 hown hK hP 0 mcw_o0 rfl 5 (by decide) fl32 (fun _ h9 => h9) rfl dX4_play_113 ?_
                refine lv_iconst (v := 1) hx hb dX4_play_116 (by decide) ?_
                refine lv_iadd hx hb dX4_play_117 ?_
                refine lv_topi (fun i_6 ei_6 => ?_)
                refine va_put (D := D) (ci := 3) (v := .int i_6) (ty := .int) (C := RX4) (T := TX4) (N := 6) hx hb hts inX4 tyX4 tyX4_ok nmX4 hown hK hP hD hS 0 mcw_o0 rfl 5 (by decide) fl32 (fun _ h9 => h9) rfl (by decide +kernel) rfl rfl (Nat.le_of_ble_eq_true rfl) dX4_play_118 (fun H locs hP hD hS => ?_)
                have hP : va_P D vwCl (mcw y ad (sI (sI (sJ (sI (sI (tI (sI (sI (tJ (tI (tI (tI (sI (sI (tI (tI σ 111 v_stack) 112 v_held) 115 v_top) 116 v_at) 132 v_kind) 133 v_left) 134 v_right) 131 v_value) 139 v_size) 140 v_steps) 135 v_given) 141 v_results) 142 v_edges) 143 v_nearest) 136 v_state) 116 i_6)) H := x_trP hP mcw_p0_5
                have hD : va_D A (mcw y ad (sI (sI (sJ (sI (sI (tI (sI (sI (tJ (tI (tI (tI (sI (sI (tI (tI σ 111 v_stack) 112 v_held) 115 v_top) 116 v_at) 132 v_kind) 133 v_left) 134 v_right) 131 v_value) 139 v_size) 140 v_steps) 135 v_given) 141 v_results) 142 v_edges) 143 v_nearest) 136 v_state) 116 i_6)) := x_trD hD mcw_p0_5
                refine lv_iload hx hb dX4_play_121 (lv_at hl 1 rfl) ?_
                refine lv_iconst (v := (-1)) hx hb dX4_play_123 (by decide) ?_
                refine lv_icmp_ne (tgt := 138) hx hb dX4_play_124 (by decide) (fun c_7 => ?_) (fun c_7 => ?_)
                · have kc_7 : r_4.toInt ≠ (-1) := by have h9 := c_7; simp only [ge_iff_le, gt_iff_lt, x_lt, x_le, x_eq, ne_eq, Int32.not_lt, Int32.not_le] at h9; simp only [Int32.reduceToInt] at h9; omega
                  refine lv_iload hx hb dX4_play_138 (lv_at hl 1 rfl) ?_
                  refine lv_iconst (v := 5) hx hb dX4_play_140 (by decide) ?_
                  refine lv_icmp_gt (tgt := 155) hx hb dX4_play_141 (by decide) (fun c_8 => ?_) (fun c_8 => ?_)
                  · have kc_8 : r_4.toInt > 5 := by have h9 := c_8; simp only [ge_iff_le, gt_iff_lt, x_lt, x_le, x_eq, ne_eq, Int32.not_lt, Int32.not_le] at h9; simp only [Int32.reduceToInt] at h9; omega
                    refine lv_iload hx hb dX4_play_155 (lv_at hl 1 rfl) ?_
                    refine lv_bipush (v := 15) hx hb dX4_play_157 (by decide) ?_
                    refine lv_icmp_gt (tgt := 171) hx hb dX4_play_159 (by decide) (fun c_9 => ?_) (fun c_9 => ?_)
                    · have kc_9 : r_4.toInt > 15 := by have h9 := c_9; simp only [ge_iff_le, gt_iff_lt, x_lt, x_le, x_eq, ne_eq, Int32.not_lt, Int32.not_le] at h9; simp only [Int32.reduceToInt] at h9; omega
                      refine lv_aload_n hx hb dX4_play_171 rfl (lv_at hl 5 rfl) ?_
                      refine lv_iload hx hb dX4_play_172 (lv_at hl 1 rfl) ?_
                      refine lv_iload hx hb dX4_play_174 (lv_at hl 0 rfl) ?_
                      refine x_callvW (va_runV (As := [.int r_4, .int r_5]) (rest := []) ⟨hx, hb, hml, hown, hts⟩ (mc_decide l D y H.size ad (sI (sI (sJ (sI (sI (tI (sI (sI (tJ (tI (tI (tI (sI (sI (tI (tI σ 111 v_stack) 112 v_held) 115 v_top) 116 v_at) 132 v_kind) 133 v_left) 134 v_right) 131 v_value) 139 v_size) 140 v_steps) 135 v_given) 141 v_results) 142 v_edges) 143 v_nearest) 136 v_state) 116 i_6) r_4 r_5 (show 0 ≤ (v_top).toInt from by first | omega | decide) (show (v_top).toInt ≤ 64 from by first | omega | decide) (show 0 ≤ (v_size).toInt from by first | omega | decide) (show (v_size).toInt ≤ 1359 from by first | omega | decide) (show 0 ≤ (v_results).toInt from by first | omega | decide) (show (v_results).toInt ≤ 12 from by first | omega | decide) (show 0 ≤ ((σ.1 137)).toInt from by first | omega | decide) (show ((σ.1 137)).toInt ≤ 8 from by first | omega | decide) (show 0 ≤ ((σ.1 86)).toInt from by first | omega | decide) (show ((σ.1 86)).toInt ≤ 700 from by first | omega | decide) (show 0 ≤ ((σ.1 82)).toInt from by first | omega | decide) (show ((σ.1 82)).toInt ≤ 4 from by first | omega | decide) hbleft hbright hbgiven) (cwV 2 hts g_mc_play_2 rfl rfl rfl (by decide +kernel) ⟨Nat.le_of_ble_eq_true rfl, Nat.le_of_ble_eq_true rfl⟩) (x_preV (q := (RX4, TX4, 6)) hK hP hD (ci := 3) (q0 := 0) rfl mcw_o0) rfl rfl hl.1 rfl (lv_room (Nat.le_of_ble_eq_true rfl)) dX4_play_176 ⟨Nat.le_of_ble_eq_true rfl, Nat.le_of_ble_eq_true rfl⟩) hP hD hS hA (fun u H locs hw hP hD hS => ?_)
                      obtain ⟨f_10, f_11, n_12, n_13, f_14, f_15, f_16, f_17, n_18, n_19, f_20, n_21, n_22, j_23, n_24⟩ := u
                      try dsimp only at hw
                      have hP : va_P D vwCl (mcw y ad (sI (sJ (sI (sI (tI (sI (sI (tJ (tI (tI (tI (sI (sI (tI (tI (sI (sI (sJ (sI (sI (tI (sI (sI (tJ (tI (tI (tI (sI (sI (tI (tI σ 111 v_stack) 112 v_held) 115 v_top) 116 v_at) 132 v_kind) 133 v_left) 134 v_right) 131 v_value) 139 v_size) 140 v_steps) 135 v_given) 141 v_results) 142 v_edges) 143 v_nearest) 136 v_state) 116 i_6) 111 f_10) 112 f_11) 115 n_12) 116 n_13) 132 f_14) 133 f_15) 134 f_16) 131 f_17) 139 n_18) 140 n_19) 135 f_20) 141 n_21) 142 n_22) 143 j_23) 136 n_24)) H := hP
                      have hD : va_D A (mcw y ad (sI (sJ (sI (sI (tI (sI (sI (tJ (tI (tI (tI (sI (sI (tI (tI (sI (sI (sJ (sI (sI (tI (sI (sI (tJ (tI (tI (tI (sI (sI (tI (tI σ 111 v_stack) 112 v_held) 115 v_top) 116 v_at) 132 v_kind) 133 v_left) 134 v_right) 131 v_value) 139 v_size) 140 v_steps) 135 v_given) 141 v_results) 142 v_edges) 143 v_nearest) 136 v_state) 116 i_6) 111 f_10) 112 f_11) 115 n_12) 116 n_13) 132 f_14) 133 f_15) 134 f_16) 131 f_17) 139 n_18) 140 n_19) 135 f_20) 141 n_21) 142 n_22) 143 j_23) 136 n_24)) := hD
                      replace hw : (0 ≤ n_12.toInt ∧ n_12.toInt ≤ 64 ∧ 0 ≤ n_18.toInt ∧ n_18.toInt ≤ 1359 ∧ 0 ≤ n_21.toInt ∧ n_21.toInt ≤ 12) ∧ bI f_15 0 1358 ∧ bI f_16 0 1358 ∧ bI f_20 0 1358 := hw
                      obtain ⟨hw, hg_25, hg_26, hg_27⟩ := hw
                      obtain ⟨i_28, ei_28⟩ : ∃ z9 : Int32, z9 = i + 1 := ⟨_, rfl⟩
                      have vi_28 : i_28.toInt = i.toInt + 1 := by have h9 := x_add ei_28 (by omega) (by omega); omega
                      refine lv_iinc (v := i_28) (lv' := [(3, .int i_28), (5, .int r_5), (4, .int r_4), (2, .ref (ad 130)), (1, .ref (ad 80)), (0, .ref (ad 110))]) hx hb dX4_play_179 hl (k := 2) rfl (by rw [ei_28]; rfl) (by decide) rfl (fun ls hl => ?_)
                      refine lv_goto (tgt := 67) hx hb dX4_play_182 (by decide) ?_
                      have hP : va_P D vwCl (mcw y ad (sI (sJ (sI (sI (tI (sI (sI (tJ (tI (tI (tI (sI (sI (tI (tI σ 111 f_10) 112 f_11) 115 n_12) 116 n_13) 132 f_14) 133 f_15) 134 f_16) 131 f_17) 139 n_18) 140 n_19) 135 f_20) 141 n_21) 142 n_22) 143 j_23) 136 n_24)) H := hP
                      have hD : va_D A (mcw y ad (sI (sJ (sI (sI (tI (sI (sI (tJ (tI (tI (tI (sI (sI (tI (tI σ 111 f_10) 112 f_11) 115 n_12) 116 n_13) 132 f_14) 133 f_15) 134 f_16) 131 f_17) 139 n_18) 140 n_19) 135 f_20) 141 n_21) 142 n_22) 143 j_23) 136 n_24)) := hD
                      exact ih_loop2 i_28 f_10 f_11 n_12 n_13 f_14 f_15 f_16 f_17 n_18 n_19 f_20 n_21 n_22 j_23 n_24 H locs ls (by omega) (by omega) (by omega) (by omega) (by omega) (by omega) (by omega) (by omega) hg_25 hg_26 hg_27 (by omega) hP hD hS (lv_sub hl [0, 3, 4, 5] rfl)
                    · have kc_9 : r_4.toInt ≤ 15 := by have h9 := c_9; simp only [ge_iff_le, gt_iff_lt, x_lt, x_le, x_eq, ne_eq, Int32.not_lt, Int32.not_le] at h9; simp only [Int32.reduceToInt] at h9; omega
                      refine lv_aload_n hx hb dX4_play_162 rfl (lv_at hl 5 rfl) ?_
                      refine lv_iload hx hb dX4_play_163 (lv_at hl 1 rfl) ?_
                      refine x_callvW (va_runV (As := [.int r_4]) (rest := []) ⟨hx, hb, hml, hown, hts⟩ (mc_step l D y H.size ad (sI (sI (sJ (sI (sI (tI (sI (sI (tJ (tI (tI (tI (sI (sI (tI (tI σ 111 v_stack) 112 v_held) 115 v_top) 116 v_at) 132 v_kind) 133 v_left) 134 v_right) 131 v_value) 139 v_size) 140 v_steps) 135 v_given) 141 v_results) 142 v_edges) 143 v_nearest) 136 v_state) 116 i_6) r_4 (show 0 ≤ (v_top).toInt from by first | omega | decide) (show (v_top).toInt ≤ 64 from by first | omega | decide) (show 0 ≤ (v_size).toInt from by first | omega | decide) (show (v_size).toInt ≤ 1359 from by first | omega | decide) (show 0 ≤ (v_results).toInt from by first | omega | decide) (show (v_results).toInt ≤ 12 from by first | omega | decide) (show 0 ≤ ((σ.1 137)).toInt from by first | omega | decide) (show ((σ.1 137)).toInt ≤ 8 from by first | omega | decide) (show 0 ≤ ((σ.1 86)).toInt from by first | omega | decide) (show ((σ.1 86)).toInt ≤ 700 from by first | omega | decide) (show 0 ≤ ((σ.1 82)).toInt from by first | omega | decide) (show ((σ.1 82)).toInt ≤ 4 from by first | omega | decide) hbleft hbright hbgiven) (cwV 1 hts g_mc_play_3 rfl rfl rfl (by decide +kernel) ⟨Nat.le_of_ble_eq_true rfl, Nat.le_of_ble_eq_true rfl⟩) (x_preV (q := (RX4, TX4, 6)) hK hP hD (ci := 3) (q0 := 0) rfl mcw_o0) rfl rfl hl.1 rfl (lv_room (Nat.le_of_ble_eq_true rfl)) dX4_play_165 ⟨Nat.le_of_ble_eq_true rfl, Nat.le_of_ble_eq_true rfl⟩) hP hD hS hA (fun u H locs hw hP hD hS => ?_)
                      obtain ⟨f_29, f_30, n_31, n_32, f_33, f_34, f_35, f_36, n_37, n_38, f_39, n_40, n_41, j_42, n_43⟩ := u
                      try dsimp only at hw
                      have hP : va_P D vwCl (mcw y ad (sI (sJ (sI (sI (tI (sI (sI (tJ (tI (tI (tI (sI (sI (tI (tI (sI (sI (sJ (sI (sI (tI (sI (sI (tJ (tI (tI (tI (sI (sI (tI (tI σ 111 v_stack) 112 v_held) 115 v_top) 116 v_at) 132 v_kind) 133 v_left) 134 v_right) 131 v_value) 139 v_size) 140 v_steps) 135 v_given) 141 v_results) 142 v_edges) 143 v_nearest) 136 v_state) 116 i_6) 111 f_29) 112 f_30) 115 n_31) 116 n_32) 132 f_33) 133 f_34) 134 f_35) 131 f_36) 139 n_37) 140 n_38) 135 f_39) 141 n_40) 142 n_41) 143 j_42) 136 n_43)) H := hP
                      have hD : va_D A (mcw y ad (sI (sJ (sI (sI (tI (sI (sI (tJ (tI (tI (tI (sI (sI (tI (tI (sI (sI (sJ (sI (sI (tI (sI (sI (tJ (tI (tI (tI (sI (sI (tI (tI σ 111 v_stack) 112 v_held) 115 v_top) 116 v_at) 132 v_kind) 133 v_left) 134 v_right) 131 v_value) 139 v_size) 140 v_steps) 135 v_given) 141 v_results) 142 v_edges) 143 v_nearest) 136 v_state) 116 i_6) 111 f_29) 112 f_30) 115 n_31) 116 n_32) 132 f_33) 133 f_34) 134 f_35) 131 f_36) 139 n_37) 140 n_38) 135 f_39) 141 n_40) 142 n_41) 143 j_42) 136 n_43)) := hD
                      replace hw : (0 ≤ n_31.toInt ∧ n_31.toInt ≤ 64 ∧ 0 ≤ n_37.toInt ∧ n_37.toInt ≤ 1359 ∧ 0 ≤ n_40.toInt ∧ n_40.toInt ≤ 12) ∧ bI f_34 0 1358 ∧ bI f_35 0 1358 ∧ bI f_39 0 1358 := hw
                      obtain ⟨hw, hg_44, hg_45, hg_46⟩ := hw
                      refine lv_goto (tgt := 179) hx hb dX4_play_168 (by decide) ?_
                      obtain ⟨i_47, ei_47⟩ : ∃ z9 : Int32, z9 = i + 1 := ⟨_, rfl⟩
                      have vi_47 : i_47.toInt = i.toInt + 1 := by have h9 := x_add ei_47 (by omega) (by omega); omega
                      refine lv_iinc (v := i_47) (lv' := [(3, .int i_47), (5, .int r_5), (4, .int r_4), (2, .ref (ad 130)), (1, .ref (ad 80)), (0, .ref (ad 110))]) hx hb dX4_play_179 hl (k := 2) rfl (by rw [ei_47]; rfl) (by decide) rfl (fun ls hl => ?_)
                      refine lv_goto (tgt := 67) hx hb dX4_play_182 (by decide) ?_
                      have hP : va_P D vwCl (mcw y ad (sI (sJ (sI (sI (tI (sI (sI (tJ (tI (tI (tI (sI (sI (tI (tI σ 111 f_29) 112 f_30) 115 n_31) 116 n_32) 132 f_33) 133 f_34) 134 f_35) 131 f_36) 139 n_37) 140 n_38) 135 f_39) 141 n_40) 142 n_41) 143 j_42) 136 n_43)) H := hP
                      have hD : va_D A (mcw y ad (sI (sJ (sI (sI (tI (sI (sI (tJ (tI (tI (tI (sI (sI (tI (tI σ 111 f_29) 112 f_30) 115 n_31) 116 n_32) 132 f_33) 133 f_34) 134 f_35) 131 f_36) 139 n_37) 140 n_38) 135 f_39) 141 n_40) 142 n_41) 143 j_42) 136 n_43)) := hD
                      exact ih_loop2 i_47 f_29 f_30 n_31 n_32 f_33 f_34 f_35 f_36 n_37 n_38 f_39 n_40 n_41 j_42 n_43 H locs ls (by omega) (by omega) (by omega) (by omega) (by omega) (by omega) (by omega) (by omega) hg_44 hg_45 hg_46 (by omega) hP hD hS (lv_sub hl [0, 3, 4, 5] rfl)
                  · have kc_8 : r_4.toInt ≤ 5 := by have h9 := c_8; simp only [ge_iff_le, gt_iff_lt, x_lt, x_le, x_eq, ne_eq, Int32.not_lt, Int32.not_le] at h9; simp only [Int32.reduceToInt] at h9; omega
                    refine lv_aload_n hx hb dX4_play_144 rfl (lv_at hl 5 rfl) ?_
                    refine lv_iload hx hb dX4_play_145 (lv_at hl 1 rfl) ?_
                    refine lv_iload hx hb dX4_play_147 (lv_at hl 0 rfl) ?_
                    refine x_callvW (va_runV (As := [.int r_4, .int r_5]) (rest := []) ⟨hx, hb, hml, hown, hts⟩ (mc_moveData l D y H.size ad (sI (sI (sJ (sI (sI (tI (sI (sI (tJ (tI (tI (tI (sI (sI (tI (tI σ 111 v_stack) 112 v_held) 115 v_top) 116 v_at) 132 v_kind) 133 v_left) 134 v_right) 131 v_value) 139 v_size) 140 v_steps) 135 v_given) 141 v_results) 142 v_edges) 143 v_nearest) 136 v_state) 116 i_6) r_4 r_5 (show 0 ≤ (v_top).toInt from by first | omega | decide) (show (v_top).toInt ≤ 64 from by first | omega | decide) (show 0 ≤ (v_size).toInt from by first | omega | decide) (show (v_size).toInt ≤ 1359 from by first | omega | decide) (show 0 ≤ (v_results).toInt from by first | omega | decide) (show (v_results).toInt ≤ 12 from by first | omega | decide) (show 0 ≤ ((σ.1 137)).toInt from by first | omega | decide) (show ((σ.1 137)).toInt ≤ 8 from by first | omega | decide) (show 0 ≤ ((σ.1 86)).toInt from by first | omega | decide) (show ((σ.1 86)).toInt ≤ 700 from by first | omega | decide) (show 0 ≤ ((σ.1 82)).toInt from by first | omega | decide) (show ((σ.1 82)).toInt ≤ 4 from by first | omega | decide) hbleft hbright hbgiven) (cwV 2 hts g_mc_play_4 rfl rfl rfl (by decide +kernel) ⟨Nat.le_of_ble_eq_true rfl, Nat.le_of_ble_eq_true rfl⟩) (x_preV (q := (RX4, TX4, 6)) hK hP hD (ci := 3) (q0 := 0) rfl mcw_o0) rfl rfl hl.1 rfl (lv_room (Nat.le_of_ble_eq_true rfl)) dX4_play_149 ⟨Nat.le_of_ble_eq_true rfl, Nat.le_of_ble_eq_true rfl⟩) hP hD hS hA (fun u H locs hw hP hD hS => ?_)
                    obtain ⟨f_48, f_49, n_50, n_51, f_52, f_53, f_54, f_55, n_56, n_57, f_58, n_59, n_60, j_61, n_62⟩ := u
                    try dsimp only at hw
                    have hP : va_P D vwCl (mcw y ad (sI (sJ (sI (sI (tI (sI (sI (tJ (tI (tI (tI (sI (sI (tI (tI (sI (sI (sJ (sI (sI (tI (sI (sI (tJ (tI (tI (tI (sI (sI (tI (tI σ 111 v_stack) 112 v_held) 115 v_top) 116 v_at) 132 v_kind) 133 v_left) 134 v_right) 131 v_value) 139 v_size) 140 v_steps) 135 v_given) 141 v_results) 142 v_edges) 143 v_nearest) 136 v_state) 116 i_6) 111 f_48) 112 f_49) 115 n_50) 116 n_51) 132 f_52) 133 f_53) 134 f_54) 131 f_55) 139 n_56) 140 n_57) 135 f_58) 141 n_59) 142 n_60) 143 j_61) 136 n_62)) H := hP
                    have hD : va_D A (mcw y ad (sI (sJ (sI (sI (tI (sI (sI (tJ (tI (tI (tI (sI (sI (tI (tI (sI (sI (sJ (sI (sI (tI (sI (sI (tJ (tI (tI (tI (sI (sI (tI (tI σ 111 v_stack) 112 v_held) 115 v_top) 116 v_at) 132 v_kind) 133 v_left) 134 v_right) 131 v_value) 139 v_size) 140 v_steps) 135 v_given) 141 v_results) 142 v_edges) 143 v_nearest) 136 v_state) 116 i_6) 111 f_48) 112 f_49) 115 n_50) 116 n_51) 132 f_52) 133 f_53) 134 f_54) 131 f_55) 139 n_56) 140 n_57) 135 f_58) 141 n_59) 142 n_60) 143 j_61) 136 n_62)) := hD
                    replace hw : (0 ≤ n_50.toInt ∧ n_50.toInt ≤ 64 ∧ 0 ≤ n_56.toInt ∧ n_56.toInt ≤ 1359 ∧ 0 ≤ n_59.toInt ∧ n_59.toInt ≤ 12) ∧ bI f_53 0 1358 ∧ bI f_54 0 1358 ∧ bI f_58 0 1358 := hw
                    obtain ⟨hw, hg_63, hg_64, hg_65⟩ := hw
                    refine lv_goto (tgt := 179) hx hb dX4_play_152 (by decide) ?_
                    obtain ⟨i_66, ei_66⟩ : ∃ z9 : Int32, z9 = i + 1 := ⟨_, rfl⟩
                    have vi_66 : i_66.toInt = i.toInt + 1 := by have h9 := x_add ei_66 (by omega) (by omega); omega
                    refine lv_iinc (v := i_66) (lv' := [(3, .int i_66), (5, .int r_5), (4, .int r_4), (2, .ref (ad 130)), (1, .ref (ad 80)), (0, .ref (ad 110))]) hx hb dX4_play_179 hl (k := 2) rfl (by rw [ei_66]; rfl) (by decide) rfl (fun ls hl => ?_)
                    refine lv_goto (tgt := 67) hx hb dX4_play_182 (by decide) ?_
                    have hP : va_P D vwCl (mcw y ad (sI (sJ (sI (sI (tI (sI (sI (tJ (tI (tI (tI (sI (sI (tI (tI σ 111 f_48) 112 f_49) 115 n_50) 116 n_51) 132 f_52) 133 f_53) 134 f_54) 131 f_55) 139 n_56) 140 n_57) 135 f_58) 141 n_59) 142 n_60) 143 j_61) 136 n_62)) H := hP
                    have hD : va_D A (mcw y ad (sI (sJ (sI (sI (tI (sI (sI (tJ (tI (tI (tI (sI (sI (tI (tI σ 111 f_48) 112 f_49) 115 n_50) 116 n_51) 132 f_52) 133 f_53) 134 f_54) 131 f_55) 139 n_56) 140 n_57) 135 f_58) 141 n_59) 142 n_60) 143 j_61) 136 n_62)) := hD
                    exact ih_loop2 i_66 f_48 f_49 n_50 n_51 f_52 f_53 f_54 f_55 n_56 n_57 f_58 n_59 n_60 j_61 n_62 H locs ls (by omega) (by omega) (by omega) (by omega) (by omega) (by omega) (by omega) (by omega) hg_63 hg_64 hg_65 (by omega) hP hD hS (lv_sub hl [0, 3, 4, 5] rfl)
                · have kc_7 : r_4.toInt = (-1) := by have h9 := c_7; simp only [ge_iff_le, gt_iff_lt, x_lt, x_le, x_eq, ne_eq, Int32.not_lt, Int32.not_le] at h9; simp only [Int32.reduceToInt] at h9; omega
                  refine lv_aload_n hx hb dX4_play_127 rfl (lv_at hl 5 rfl) ?_
                  refine va_get (D := D) (ci := 3) (v := .ref (ad 130)) (C := RX4) (T := TX4) (N := 6) hx hb hts inX4 hown hK hP 0 mcw_o0 rfl 3 (by decide) fl24 (fun _ h9 => h9) rfl dX4_play_128 ?_
                  refine lv_iconst (v := 0) hx hb dX4_play_131 (by decide) ?_
                  refine va_put (D := D) (ci := 7) (v := .int 0) (ty := .int) (C := RX8) (T := TX8) (N := 13) hx hb hts inX8 tyX8 tyX8_ok nmX8 hown hK hP hD hS 2 mcw_o2 rfl 5 (by decide) fl45 (fun _ h9 => h9) rfl (by decide +kernel) rfl rfl (Nat.le_of_ble_eq_true rfl) dX4_play_132 (fun H locs hP hD hS => ?_)
                  have hP : va_P D vwCl (mcw y ad (sI (sI (sI (sJ (sI (sI (tI (sI (sI (tJ (tI (tI (tI (sI (sI (tI (tI σ 111 v_stack) 112 v_held) 115 v_top) 116 v_at) 132 v_kind) 133 v_left) 134 v_right) 131 v_value) 139 v_size) 140 v_steps) 135 v_given) 141 v_results) 142 v_edges) 143 v_nearest) 136 v_state) 116 i_6) 136 0)) H := x_trP hP mcw_p2_5
                  have hD : va_D A (mcw y ad (sI (sI (sI (sJ (sI (sI (tI (sI (sI (tJ (tI (tI (tI (sI (sI (tI (tI σ 111 v_stack) 112 v_held) 115 v_top) 116 v_at) 132 v_kind) 133 v_left) 134 v_right) 131 v_value) 139 v_size) 140 v_steps) 135 v_given) 141 v_results) 142 v_edges) 143 v_nearest) 136 v_state) 116 i_6) 136 0)) := x_trD hD mcw_p2_5
                  refine lv_goto (tgt := 179) hx hb dX4_play_135 (by decide) ?_
                  obtain ⟨i_67, ei_67⟩ : ∃ z9 : Int32, z9 = i + 1 := ⟨_, rfl⟩
                  have vi_67 : i_67.toInt = i.toInt + 1 := by have h9 := x_add ei_67 (by omega) (by omega); omega
                  refine lv_iinc (v := i_67) (lv' := [(3, .int i_67), (5, .int r_5), (4, .int r_4), (2, .ref (ad 130)), (1, .ref (ad 80)), (0, .ref (ad 110))]) hx hb dX4_play_179 hl (k := 2) rfl (by rw [ei_67]; rfl) (by decide) rfl (fun ls hl => ?_)
                  refine lv_goto (tgt := 67) hx hb dX4_play_182 (by decide) ?_
                  have hP : va_P D vwCl (mcw y ad (sI (sJ (sI (sI (tI (sI (sI (tJ (tI (tI (tI (sI (sI (tI (tI σ 111 v_stack) 112 v_held) 115 v_top) 116 i_6) 132 v_kind) 133 v_left) 134 v_right) 131 v_value) 139 v_size) 140 v_steps) 135 v_given) 141 v_results) 142 v_edges) 143 v_nearest) 136 0)) H := hP
                  have hD : va_D A (mcw y ad (sI (sJ (sI (sI (tI (sI (sI (tJ (tI (tI (tI (sI (sI (tI (tI σ 111 v_stack) 112 v_held) 115 v_top) 116 i_6) 132 v_kind) 133 v_left) 134 v_right) 131 v_value) 139 v_size) 140 v_steps) 135 v_given) 141 v_results) 142 v_edges) 143 v_nearest) 136 0)) := hD
                  exact ih_loop2 i_67 v_stack v_held v_top i_6 v_kind v_left v_right v_value v_size v_steps v_given v_results v_edges v_nearest 0 H locs ls (by omega) (by omega) (by omega) (by omega) (by omega) (by omega) (by omega) (by omega) hbleft hbright hbgiven (by omega) hP hD hS (lv_sub hl [0, 3, 4, 5] rfl)
        exact loop2 701401 0 (σ.2.2.1 111) fh 0 0 (σ.2.2.1 132) (σ.2.2.1 133) (σ.2.2.1 134) (σ.2.2.2 131) (σ.1 139) (σ.1 140) (σ.2.2.1 135) (σ.1 141) (σ.1 142) (σ.2.1 143) (σ.1 136) H locs ls (by decide) (by decide) (by omega) (by omega) (by omega) (by omega) (by omega) (by omega) hB133 hB134 hB135 (by omega) hP hD hS (lv_sub hl [0, 1, 2, 3] rfl)
      · have kc_1 : i.toInt < 84 := by have h9 := c_1; simp only [ge_iff_le, gt_iff_lt, x_lt, x_le, x_eq, ne_eq, Int32.not_lt, Int32.not_le] at h9; simp only [Int32.reduceToInt] at h9; omega
        refine lv_aload_n hx hb dX4_play_31 rfl (lv_at hl 3 rfl) ?_
        refine va_get (D := D) (ci := 3) (v := .ref (ad 112)) (C := RX4) (T := TX4) (N := 6) hx hb hts inX4 hown hK hP 0 mcw_o0 rfl 1 (by decide) fl17 (fun _ h9 => h9) rfl dX4_play_32 ?_
        refine lv_iload_n hx hb dX4_play_35 rfl (lv_at hl 0 rfl) ?_
        refine lv_iload_n hx hb dX4_play_36 rfl (lv_at hl 0 rfl) ?_
        refine lv_aload_n hx hb dX4_play_37 rfl (lv_at hl 3 rfl) ?_
        refine va_get (D := D) (ci := 3) (v := .ref (ad 80)) (C := RX4) (T := TX4) (N := 6) hx hb hts inX4 hown hK hP 0 mcw_o0 rfl 2 (by decide) fl20 (fun _ h9 => h9) rfl dX4_play_38 ?_
        refine va_get (D := D) (ci := 5) (v := .int (σ.1 81)) (C := RX6) (T := TX6) (N := 13) hx hb hts inX6 hown hK hP 1 mcw_o1 rfl 0 (by decide) fl35 (fun _ h9 => h9) rfl dX4_play_41 ?_
        refine lv_icmp_ge (tgt := 51) hx hb dX4_play_44 (by decide) (fun c_68 => ?_) (fun c_68 => ?_)
        · have kc_68 : i.toInt ≥ (σ.1 81).toInt := by have h9 := c_68; simp only [ge_iff_le, gt_iff_lt, x_lt, x_le, x_eq, ne_eq, Int32.not_lt, Int32.not_le] at h9; omega
          refine lv_aload_n hx hb dX4_play_51 rfl (lv_at hl 3 rfl) ?_
          refine va_get (D := D) (ci := 3) (v := .ref (ad 130)) (C := RX4) (T := TX4) (N := 6) hx hb hts inX4 hown hK hP 0 mcw_o0 rfl 3 (by decide) fl24 (fun _ h9 => h9) rfl dX4_play_52 ?_
          have hPs : va_P D vwCl (tpw y ad (tI (sI (sI σ 115 0) 116 0) 112 fh)) H := x_suP hP [2, 11, 12, 13, 14, 15] rfl
          have hDs : va_D A (tpw y ad (tI (sI (sI σ 115 0) 116 0) 112 fh)) := x_suD hD [2, 11, 12, 13, 14, 15] rfl (by decide)
          refine x_calliS (b1 := fun (u : Unit) => (mcw y ad (tI (sI (sI σ 115 0) 116 0) 112 fh))) [2, 11, 12, 13, 14, 15] (va_runV (As := []) (rest := [.int i, .ref (ad 112)]) ⟨hx, hb, hml, hown, hts⟩ (ka_zeroAt l D y H.size ad (tI (sI (sI σ 115 0) 116 0) 112 fh) ) (cwV 0 hts g_mc_play_5 rfl rfl rfl (by decide +kernel) ⟨Nat.le_of_ble_eq_true rfl, Nat.le_of_ble_eq_true rfl⟩) (x_preV (q := (RX8, TX8, 13)) hK hPs hDs (ci := 7) (q0 := 0) rfl tpw_o0) rfl rfl hl.1 rfl (lv_room (Nat.le_of_ble_eq_true rfl)) dX4_play_55 ⟨Nat.le_of_ble_eq_true rfl, Nat.le_of_ble_eq_true rfl⟩) hP hD hS hA rfl (fun _ => rfl) (fun _ => rfl) (fun _ => rfl) (fun r_69 u H locs hw hP hD hS => ?_)
          try dsimp only at hw
          have hP : va_P D vwCl (mcw y ad (tI (sI (sI σ 115 0) 116 0) 112 fh)) H := hP
          have hD : va_D A (mcw y ad (tI (sI (sI σ 115 0) 116 0) 112 fh)) := hD
          replace hw : r_69 = (σ.1 137) := hw
          refine va_iast hx hb hK hP hD hS 4 2 mcw_a4 rfl (x_in (by omega) (by omega)) dX4_play_58 (fun H locs hP hD hS => ?_)
          obtain ⟨f_70, ef_70⟩ : ∃ z9 : Nat → Int32, z9 = (upd fh (Int32.toNatClampNeg i) r_69) := ⟨_, rfl⟩
          have hP : va_P D vwCl (mcw y ad (tI (tI (sI (sI σ 115 0) 116 0) 112 fh) 112 f_70)) H := by rw [ef_70]; exact x_trP hP mcw_s4
          have hD : va_D A (mcw y ad (tI (tI (sI (sI σ 115 0) 116 0) 112 fh) 112 f_70)) := by rw [ef_70]; exact x_trD hD mcw_s4
          obtain ⟨i_71, ei_71⟩ : ∃ z9 : Int32, z9 = i + 1 := ⟨_, rfl⟩
          have vi_71 : i_71.toInt = i.toInt + 1 := by have h9 := x_add ei_71 (by omega) (by omega); omega
          refine lv_iinc (v := i_71) (lv' := [(3, .int i_71), (2, .ref (ad 130)), (1, .ref (ad 80)), (0, .ref (ad 110))]) hx hb dX4_play_59 hl (k := 0) rfl (by rw [ei_71]; rfl) (by decide) rfl (fun ls hl => ?_)
          refine lv_goto (tgt := 22) hx hb dX4_play_62 (by decide) ?_
          have hP : va_P D vwCl (mcw y ad (tI (sI (sI σ 115 0) 116 0) 112 f_70)) H := hP
          have hD : va_D A (mcw y ad (tI (sI (sI σ 115 0) 116 0) 112 f_70)) := hD
          exact ih_loop i_71 f_70 H locs ls (by omega) (by omega) (by omega) hP hD hS (lv_sub hl [0, 1, 2, 3] rfl)
        · have kc_68 : i.toInt < (σ.1 81).toInt := by have h9 := c_68; simp only [ge_iff_le, gt_iff_lt, x_lt, x_le, x_eq, ne_eq, Int32.not_lt, Int32.not_le] at h9; omega
          refine lv_iload_n hx hb dX4_play_47 rfl (lv_at hl 0 rfl) ?_
          refine lv_goto (tgt := 58) hx hb dX4_play_48 (by decide) ?_
          refine va_iast hx hb hK hP hD hS 4 2 mcw_a4 rfl (x_in (by omega) (by omega)) dX4_play_58 (fun H locs hP hD hS => ?_)
          obtain ⟨f_72, ef_72⟩ : ∃ z9 : Nat → Int32, z9 = (upd fh (Int32.toNatClampNeg i) i) := ⟨_, rfl⟩
          have hP : va_P D vwCl (mcw y ad (tI (tI (sI (sI σ 115 0) 116 0) 112 fh) 112 f_72)) H := by rw [ef_72]; exact x_trP hP mcw_s4
          have hD : va_D A (mcw y ad (tI (tI (sI (sI σ 115 0) 116 0) 112 fh) 112 f_72)) := by rw [ef_72]; exact x_trD hD mcw_s4
          obtain ⟨i_73, ei_73⟩ : ∃ z9 : Int32, z9 = i + 1 := ⟨_, rfl⟩
          have vi_73 : i_73.toInt = i.toInt + 1 := by have h9 := x_add ei_73 (by omega) (by omega); omega
          refine lv_iinc (v := i_73) (lv' := [(3, .int i_73), (2, .ref (ad 130)), (1, .ref (ad 80)), (0, .ref (ad 110))]) hx hb dX4_play_59 hl (k := 0) rfl (by rw [ei_73]; rfl) (by decide) rfl (fun ls hl => ?_)
          refine lv_goto (tgt := 22) hx hb dX4_play_62 (by decide) ?_
          have hP : va_P D vwCl (mcw y ad (tI (sI (sI σ 115 0) 116 0) 112 f_72)) H := hP
          have hD : va_D A (mcw y ad (tI (sI (sI σ 115 0) 116 0) 112 f_72)) := hD
          exact ih_loop i_73 f_72 H locs ls (by omega) (by omega) (by omega) hP hD hS (lv_sub hl [0, 1, 2, 3] rfl)
  exact loop 85 0 (σ.2.2.1 112) H locs ls (by decide) (by decide) (by omega) hP hD hS (lv_sub hl [0, 3, 2, 1] rfl)

