def v_q_works1_1 : List Cond := .code yX12_works cX12_works 15 (some .boolean) :: ([.fieldLink RX12 142 "SlopeRunnerModel" "steps" "[I", .fieldLink RX12 160 "SlopeRunnerModel" "pile" "[I", .fieldLink RX12 421 "SlopeRunnerModel" "piled" "I", .fieldLink RX12 124 "SlopeRunnerModel" "valueAbove" "[J", .fieldLink RX12 127 "SlopeRunnerModel" "valueBelow" "[J", .fieldLink RX12 384 "SlopeRunnerModel" "isStuck" "Z", .fieldLink RX12 387 "SlopeRunnerModel" "up" "J", .fieldLink RX12 391 "SlopeRunnerModel" "down" "J", .fieldLink RX12 139 "SlopeRunnerModel" "laid" "[I", .fieldLink RX12 154 "SlopeRunnerModel" "state" "[I"] ++ ((wsV RX12 424 RX12 yX12_adds v_q_adds) ++ ((wsV RX12 433 RX12 yX12_lays v_q_lays1) ++ wsX120)))
theorem g_q_works1_1_0 : GoodIn v_q_works1_1 (wsV RX12 424 RX12 yX12_adds v_q_adds) := goodIn_sub (fun w h => List.mem_cons_of_mem _ (List.mem_append_right _ (List.mem_append_left _ h))) (by decide +kernel)
theorem g_q_works1_1_1 : GoodIn v_q_works1_1 (wsV RX12 433 RX12 yX12_lays v_q_lays1) := goodIn_sub (fun w h => List.mem_cons_of_mem _ (List.mem_append_right _ (List.mem_append_right _ (List.mem_append_left _ h)))) (by decide +kernel)
set_option maxHeartbeats 4000000 in
set_option maxRecDepth 100000 in
theorem q_works1_1 (l : Launch) (D : va_G) (y : Nat → ClassId) (sz : Nat) (ad : Nat → Nat) (zw : Nat → Nat → Int32) (σ : OS) (T : List Bool) (hp : (σ.1 73).toInt = (T.length : Int) + 2) (hT : T.length ≤ 700) (hPT : PT (true :: true :: T) (σ.2.2.1 72) (σ.2.2.1 62 1).toInt) (hop : opc (σ.2.2.1 59) (σ.2.2.1 60) (σ.2.2.1 61)) (hl0 : 0 ≤ (σ.2.2.1 62 1).toInt) (hl1 : (σ.2.2.1 62 1).toInt < 1760) (hB57 : bJ (σ.2.2.2 57) (-1000000000) 1000000000) (hB58 : bJ (σ.2.2.2 58) 0 1000000000) (hB62 : bI (σ.2.2.1 62) 0 1760) (hB63 : bI (σ.2.2.1 63) 0 1000) : Met l yX12_works v_q_works1_1 ({ frames := 4, cells := 0, slots := 0, locals := 108 } : Room) (va_Pc [.ref (ad 1), .int 1, .int 1] (xPre D (xT y) (mwd y ad zw σ) sz)) (va_Qi (fun (r : Int32) (u : Int32 × (Nat → Int32) × (Nat → Int32) × (Nat → Int32) × (Nat → Int32) × Int32 × Int64 × Int64 × Int32 × Int64 × Int64 × (Nat → Int64) × (Nat → Int64) × (Nat → Int32) × (Nat → Int32) × (Nat → Int32) × (Nat → Int32)) => (((u.2.2.2.1 1).toInt ≠ 0 ∨ (u.1.toInt = (T.length : Int) + 1 ∧ PT (true :: T) u.2.1 (u.2.2.2.2.2.2.2.2.2.2.2.2.2.2.2.2 1).toInt ∧ (u.2.2.1 1).toInt = (σ.2.2.1 63 1).toInt + 1 ∧ u.2.2.2.1 = σ.2.2.1 67)) ∧ opc u.2.2.2.2.2.2.2.2.2.2.2.2.2.1 u.2.2.2.2.2.2.2.2.2.2.2.2.2.2.1 u.2.2.2.2.2.2.2.2.2.2.2.2.2.2.2.1 ∧ (σ.2.2.1 62 1).toInt ≤ (u.2.2.2.2.2.2.2.2.2.2.2.2.2.2.2.2 1).toInt ∧ (u.2.2.2.2.2.2.2.2.2.2.2.2.2.2.2.2 1).toInt - (σ.2.2.1 62 1).toInt ≤ (u.2.2.1 1).toInt - (σ.2.2.1 63 1).toInt ∧ u.2.2.2.2.2.2.2.2.2.2.2.2.2.2.2.2 0 = σ.2.2.1 62 0) ∧ bJ u.2.2.2.2.2.2.2.2.2.2.2.1 (-1000000000) 1000000000 ∧ bJ u.2.2.2.2.2.2.2.2.2.2.2.2.1 0 1000000000 ∧ bI u.2.2.2.2.2.2.2.2.2.2.2.2.2.2.2.2 0 1760 ∧ bI u.2.2.1 0 1000) (fun (u : Int32 × (Nat → Int32) × (Nat → Int32) × (Nat → Int32) × (Nat → Int32) × Int32 × Int64 × Int64 × Int32 × Int64 × Int64 × (Nat → Int64) × (Nat → Int64) × (Nat → Int32) × (Nat → Int32) × (Nat → Int32) × (Nat → Int32)) => xB D (xT y) (va_A (mwd y ad zw σ) sz) (mwd y ad zw (tI (tI (tI (tI (tJ (tJ (sJ (sJ (sI (sJ (sJ (sI (tI (tI (tI (tI (sI σ 73 u.1) 72 u.2.1) 63 u.2.2.1) 67 u.2.2.2.1) 66 u.2.2.2.2.1) 44 u.2.2.2.2.2.1) 42 u.2.2.2.2.2.2.1) 43 u.2.2.2.2.2.2.2.1) 68 u.2.2.2.2.2.2.2.2.1) 69 u.2.2.2.2.2.2.2.2.2.1) 70 u.2.2.2.2.2.2.2.2.2.2.1) 57 u.2.2.2.2.2.2.2.2.2.2.2.1) 58 u.2.2.2.2.2.2.2.2.2.2.2.2.1) 59 u.2.2.2.2.2.2.2.2.2.2.2.2.2.1) 60 u.2.2.2.2.2.2.2.2.2.2.2.2.2.2.1) 61 u.2.2.2.2.2.2.2.2.2.2.2.2.2.2.2.1) 62 u.2.2.2.2.2.2.2.2.2.2.2.2.2.2.2.2))) (va_A (mwd y ad zw σ) sz)) 0 0 (va_A (mwd y ad zw σ) sz) := by
  refine x_meti (cc := cX12_works) (maxL := 15) (by decide) rfl (Nat.le_of_ble_eq_true rfl) ?_
  intro p e s m below meth c A H locs Q hx hb hml hown hts hr hlocks hmn hA hP hK hD hS ls hl hQ
  have hl : lv_has ls 15 [(0, .ref (ad 1)), (1, .int 1), (2, .int 1)] := hl
  have fl142 := hts (.fieldLink RX12 142 "SlopeRunnerModel" "steps" "[I") (List.mem_of_getElem? (i := 1) rfl)
  have inX12 : ∀ w ∈ wsX120, w ∈ v_q_works1_1 := (fun w h => List.mem_cons_of_mem _ (List.mem_append_right _ (List.mem_append_right _ (List.mem_append_right _ h))))
  have kk_1000 : (1000 : Int32).toInt = 1000 := rfl
  have fl160 := hts (.fieldLink RX12 160 "SlopeRunnerModel" "pile" "[I") (List.mem_of_getElem? (i := 2) rfl)
  have fl421 := hts (.fieldLink RX12 421 "SlopeRunnerModel" "piled" "I") (List.mem_of_getElem? (i := 3) rfl)
  have kk_1 : (1 : Int32).toInt = 1 := rfl
  have kk_2 : (2 : Int32).toInt = 2 := rfl
  have fl124 := hts (.fieldLink RX12 124 "SlopeRunnerModel" "valueAbove" "[J") (List.mem_of_getElem? (i := 4) rfl)
  have kk_1760 : (1760 : Int32).toInt = 1760 := rfl
  have fl127 := hts (.fieldLink RX12 127 "SlopeRunnerModel" "valueBelow" "[J") (List.mem_of_getElem? (i := 5) rfl)
  have fl384 := hts (.fieldLink RX12 384 "SlopeRunnerModel" "isStuck" "Z") (List.mem_of_getElem? (i := 6) rfl)
  have kk_0 : (0 : Int32).toInt = 0 := rfl
  have fl387 := hts (.fieldLink RX12 387 "SlopeRunnerModel" "up" "J") (List.mem_of_getElem? (i := 7) rfl)
  have fl391 := hts (.fieldLink RX12 391 "SlopeRunnerModel" "down" "J") (List.mem_of_getElem? (i := 8) rfl)
  have fl139 := hts (.fieldLink RX12 139 "SlopeRunnerModel" "laid" "[I") (List.mem_of_getElem? (i := 9) rfl)
  have fl154 := hts (.fieldLink RX12 154 "SlopeRunnerModel" "state" "[I") (List.mem_of_getElem? (i := 10) rfl)
  refine lv_aload_n hx hb dX12_works_0 rfl (lv_at hl 0 rfl) ?_
  refine va_get (D := D) (ci := 11) (v := .ref (ad 63)) (C := RX12) (T := TX12) (N := 85) hx hb hts inX12 hown hK hP 0 mwd_o0 rfl 63 (by decide) fl142 (fun _ h9 => h9) rfl dX12_works_1 ?_
  refine lv_iload_n hx hb dX12_works_4 rfl (lv_at hl 1 rfl) ?_
  refine va_iald hx hb hK hP 43 2 mwd_a43 rfl (x_in (by decide) (by decide)) dX12_works_5 ?_
  refine lv_topi (fun i_1 ei_1 => ?_)
  have ei_1 : i_1 = (σ.2.2.1 63) (Int32.toNatClampNeg 1) := ei_1
  have gi_1 : i_1.toInt = (σ.2.2.1 63 1).toInt := by rw [ei_1]; rfl
  have bi_1 := b_at hB63 ei_1
  refine lv_sipush (v := 1000) hx hb dX12_works_6 (by decide) ?_
  refine lv_icmp_ne (tgt := 21) hx hb dX12_works_9 (by decide) (fun c_2 => ?_) (fun c_2 => ?_)
  · have kc_2 : i_1.toInt ≠ 1000 := by have h9 := c_2; simp only [ge_iff_le, gt_iff_lt, x_lt, x_le, x_eq, ne_eq, Int32.not_lt, Int32.not_le] at h9; simp only [Int32.reduceToInt] at h9; omega
    refine lv_iload_n hx hb dX12_works_21 rfl (lv_at hl 2 rfl) ?_
    refine lv_bipush (v := 7) hx hb dX12_works_22 (by decide) ?_
    refine lv_icmp_ne (tgt := 41) hx hb dX12_works_24 (by decide) (fun c_3 => ?_) (fun c_3 => ?_)
    · refine lv_aload_n hx hb dX12_works_41 rfl (lv_at hl 0 rfl) ?_
      refine va_get (D := D) (ci := 11) (v := .ref (ad 72)) (C := RX12) (T := TX12) (N := 85) hx hb hts inX12 hown hK hP 0 mwd_o0 rfl 72 (by decide) fl160 (fun _ h9 => h9) rfl dX12_works_42 ?_
      refine lv_aload_n hx hb dX12_works_45 rfl (lv_at hl 0 rfl) ?_
      refine va_get (D := D) (ci := 11) (v := .int (σ.1 73)) (C := RX12) (T := TX12) (N := 85) hx hb hts inX12 hown hK hP 0 mwd_o0 rfl 73 (by decide) fl421 (fun _ h9 => h9) rfl dX12_works_46 ?_
      refine lv_iconst (v := 1) hx hb dX12_works_49 (by decide) ?_
      refine lv_isub hx hb dX12_works_50 ?_
      refine lv_topi (fun i_4 ei_4 => ?_)
      have vi_4 : i_4.toInt = (σ.1 73).toInt - 1 := by have h9 := x_sub ei_4 (by omega) (by omega); omega
      refine va_iald hx hb hK hP 49 2 mwd_a49 rfl (x_in (by omega) (by omega)) dX12_works_51 ?_
      refine lv_topi (fun i_5 ei_5 => ?_)
      have ei_5 : i_5 = (σ.2.2.1 72) (Int32.toNatClampNeg i_4) := ei_5
      have gi_5 := PT_N hPT ei_5 (x_cl (by simp only [List.length_cons]; omega))
      refine lv_istore_n (lv' := [(3, .int i_5), (0, .ref (ad 1)), (1, .int 1), (2, .int 1)]) hx hb dX12_works_52 rfl hl (by decide) rfl (fun ls hl => ?_)
      refine lv_iload_n hx hb dX12_works_53 rfl (lv_at hl 3 rfl) ?_
      refine lv_bipush (v := 7) hx hb dX12_works_54 (by decide) ?_
      refine lv_icmp_ne (tgt := 63) hx hb dX12_works_56 (by decide) (fun c_6 => ?_) (fun c_6 => ?_)
      · refine lv_aload_n hx hb dX12_works_63 rfl (lv_at hl 1 rfl) ?_
        refine va_get (D := D) (ci := 11) (v := .ref (ad 72)) (C := RX12) (T := TX12) (N := 85) hx hb hts inX12 hown hK hP 0 mwd_o0 rfl 72 (by decide) fl160 (fun _ h9 => h9) rfl dX12_works_64 ?_
        refine lv_aload_n hx hb dX12_works_67 rfl (lv_at hl 1 rfl) ?_
        refine va_get (D := D) (ci := 11) (v := .int (σ.1 73)) (C := RX12) (T := TX12) (N := 85) hx hb hts inX12 hown hK hP 0 mwd_o0 rfl 73 (by decide) fl421 (fun _ h9 => h9) rfl dX12_works_68 ?_
        refine lv_iconst (v := 2) hx hb dX12_works_71 (by decide) ?_
        refine lv_isub hx hb dX12_works_72 ?_
        refine lv_topi (fun i_7 ei_7 => ?_)
        have vi_7 : i_7.toInt = (σ.1 73).toInt - 2 := by have h9 := x_sub ei_7 (by omega) (by omega); omega
        refine va_iald hx hb hK hP 49 2 mwd_a49 rfl (x_in (by omega) (by omega)) dX12_works_73 ?_
        refine lv_topi (fun i_8 ei_8 => ?_)
        have ei_8 : i_8 = (σ.2.2.1 72) (Int32.toNatClampNeg i_7) := ei_8
        have gi_8 := PT_N hPT.2 ei_8 (x_cl (by omega))
        refine lv_istore (lv' := [(4, .int i_8), (3, .int i_5), (0, .ref (ad 1)), (1, .int 1), (2, .int 1)]) hx hb dX12_works_74 hl (by decide) rfl (fun ls hl => ?_)
        refine lv_aload_n hx hb dX12_works_76 rfl (lv_at hl 2 rfl) ?_
        refine va_get (D := D) (ci := 11) (v := .ref (ad 57)) (C := RX12) (T := TX12) (N := 85) hx hb hts inX12 hown hK hP 0 mwd_o0 rfl 57 (by decide) fl124 (fun _ h9 => h9) rfl dX12_works_77 ?_
        refine lv_sipush (v := 1760) hx hb dX12_works_80 (by decide) ?_
        refine lv_iload_n hx hb dX12_works_83 rfl (lv_at hl 3 rfl) ?_
        refine lv_imul hx hb dX12_works_84 ?_
        refine lv_topi (fun i_9 ei_9 => ?_)
        obtain rfl : i_9 = 1760 := ei_9.trans (by decide)
        refine lv_iload hx hb dX12_works_85 (lv_at hl 0 rfl) ?_
        refine lv_iadd hx hb dX12_works_87 ?_
        refine lv_topi (fun i_10 ei_10 => ?_)
        have vi_10 : i_10.toInt = 1760 + i_8.toInt := by have h9 := x_add ei_10 (by omega) (by omega); omega
        refine va_lald hx hb hK hP 37 3 mwd_a37 rfl (x_in (by omega) (by omega)) dX12_works_88 ?_
        refine lv_topl (fun j_11 ej_11 => ?_)
        have ej_11 : j_11 = (σ.2.2.2 57) (Int32.toNatClampNeg i_10) := ej_11
        have bj_11 := b_atJ hB57 ej_11
        refine lv_lstore (lv' := [(5, .long j_11), (4, .int i_8), (3, .int i_5), (0, .ref (ad 1)), (1, .int 1), (2, .int 1)]) hx hb dX12_works_89 hl (by decide) rfl (fun ls hl => ?_)
        refine lv_aload_n hx hb dX12_works_91 rfl (lv_at hl 3 rfl) ?_
        refine va_get (D := D) (ci := 11) (v := .ref (ad 58)) (C := RX12) (T := TX12) (N := 85) hx hb hts inX12 hown hK hP 0 mwd_o0 rfl 58 (by decide) fl127 (fun _ h9 => h9) rfl dX12_works_92 ?_
        refine lv_sipush (v := 1760) hx hb dX12_works_95 (by decide) ?_
        refine lv_iload_n hx hb dX12_works_98 rfl (lv_at hl 4 rfl) ?_
        refine lv_imul hx hb dX12_works_99 ?_
        refine lv_topi (fun i_12 ei_12 => ?_)
        obtain rfl : i_12 = 1760 := ei_12.trans (by decide)
        refine lv_iload hx hb dX12_works_100 (lv_at hl 1 rfl) ?_
        refine lv_iadd hx hb dX12_works_102 ?_
        refine lv_topi (fun i_13 ei_13 => ?_)
        have vi_13 : i_13.toInt = 1760 + i_8.toInt := by have h9 := x_add ei_13 (by omega) (by omega); omega
        refine va_lald hx hb hK hP 38 3 mwd_a38 rfl (x_in (by omega) (by omega)) dX12_works_103 ?_
        refine lv_topl (fun j_14 ej_14 => ?_)
        have ej_14 : j_14 = (σ.2.2.2 58) (Int32.toNatClampNeg i_13) := ej_14
        have bj_14 := b_atJ hB58 ej_14
        refine lv_lstore (lv' := [(7, .long j_14), (5, .long j_11), (4, .int i_8), (3, .int i_5), (0, .ref (ad 1)), (1, .int 1), (2, .int 1)]) hx hb dX12_works_104 hl (by decide) rfl (fun ls hl => ?_)
        refine lv_aload_n hx hb dX12_works_106 rfl (lv_at hl 4 rfl) ?_
        refine va_get (D := D) (ci := 11) (v := .ref (ad 57)) (C := RX12) (T := TX12) (N := 85) hx hb hts inX12 hown hK hP 0 mwd_o0 rfl 57 (by decide) fl124 (fun _ h9 => h9) rfl dX12_works_107 ?_
        refine lv_sipush (v := 1760) hx hb dX12_works_110 (by decide) ?_
        refine lv_iload_n hx hb dX12_works_113 rfl (lv_at hl 5 rfl) ?_
        refine lv_imul hx hb dX12_works_114 ?_
        refine lv_topi (fun i_15 ei_15 => ?_)
        obtain rfl : i_15 = 1760 := ei_15.trans (by decide)
        refine lv_iload_n hx hb dX12_works_115 rfl (lv_at hl 3 rfl) ?_
        refine lv_iadd hx hb dX12_works_116 ?_
        refine lv_topi (fun i_16 ei_16 => ?_)
        have vi_16 : i_16.toInt = 1760 + i_5.toInt := by have h9 := x_add ei_16 (by omega) (by omega); omega
        refine va_lald hx hb hK hP 37 3 mwd_a37 rfl (x_in (by omega) (by omega)) dX12_works_117 ?_
        refine lv_topl (fun j_17 ej_17 => ?_)
        have ej_17 : j_17 = (σ.2.2.2 57) (Int32.toNatClampNeg i_16) := ej_17
        have bj_17 := b_atJ hB57 ej_17
        refine lv_lstore (lv' := [(9, .long j_17), (7, .long j_14), (5, .long j_11), (4, .int i_8), (3, .int i_5), (0, .ref (ad 1)), (1, .int 1), (2, .int 1)]) hx hb dX12_works_118 hl (by decide) rfl (fun ls hl => ?_)
        refine lv_aload_n hx hb dX12_works_120 rfl (lv_at hl 5 rfl) ?_
        refine va_get (D := D) (ci := 11) (v := .ref (ad 58)) (C := RX12) (T := TX12) (N := 85) hx hb hts inX12 hown hK hP 0 mwd_o0 rfl 58 (by decide) fl127 (fun _ h9 => h9) rfl dX12_works_121 ?_
        refine lv_sipush (v := 1760) hx hb dX12_works_124 (by decide) ?_
        refine lv_iload_n hx hb dX12_works_127 rfl (lv_at hl 6 rfl) ?_
        refine lv_imul hx hb dX12_works_128 ?_
        refine lv_topi (fun i_18 ei_18 => ?_)
        obtain rfl : i_18 = 1760 := ei_18.trans (by decide)
        refine lv_iload_n hx hb dX12_works_129 rfl (lv_at hl 4 rfl) ?_
        refine lv_iadd hx hb dX12_works_130 ?_
        refine lv_topi (fun i_19 ei_19 => ?_)
        have vi_19 : i_19.toInt = 1760 + i_5.toInt := by have h9 := x_add ei_19 (by omega) (by omega); omega
        refine va_lald hx hb hK hP 38 3 mwd_a38 rfl (x_in (by omega) (by omega)) dX12_works_131 ?_
        refine lv_topl (fun j_20 ej_20 => ?_)
        have ej_20 : j_20 = (σ.2.2.2 58) (Int32.toNatClampNeg i_19) := ej_20
        have bj_20 := b_atJ hB58 ej_20
        refine lv_lstore (lv' := [(11, .long j_20), (9, .long j_17), (7, .long j_14), (5, .long j_11), (4, .int i_8), (3, .int i_5), (0, .ref (ad 1)), (1, .int 1), (2, .int 1)]) hx hb dX12_works_132 hl (by decide) rfl (fun ls hl => ?_)
        refine lv_lload hx hb dX12_works_134 (lv_at hl 3 rfl) ?_
        refine lv_lload hx hb dX12_works_136 (lv_at hl 0 rfl) ?_
        refine lv_lmul hx hb dX12_works_138 ?_
        refine lv_topl (fun j_21 ej_21 => ?_)
        have vj_21 := x_mulB ej_21 (by omega) (by omega) (by omega) (by omega)
        refine lv_lload hx hb dX12_works_139 (lv_at hl 1 rfl) ?_
        refine lv_lload hx hb dX12_works_141 (lv_at hl 2 rfl) ?_
        refine lv_lmul hx hb dX12_works_143 ?_
        refine lv_topl (fun j_22 ej_22 => ?_)
        have vj_22 := x_mulB ej_22 (by omega) (by omega) (by omega) (by omega)
        refine W.lcmp hx hb dX12_works_144 ?_
        refine lv_if_ge (tgt := 152) hx hb dX12_works_145 (by decide) (fun c_23 => ?_) (fun c_23 => ?_)
        · have kc_23 : j_21.toInt ≥ j_22.toInt := by have h9 := x_tri j_21 j_22; (try simp only [Int64.reduceToInt] at h9); rcases h9 with ⟨g1, g2⟩ | ⟨g1, g2⟩ | ⟨g1, g2⟩ <;> first | omega | (exfalso; rw [g1] at c_23; revert c_23; decide)
          refine lv_iconst (v := 0) hx hb dX12_works_152 (by decide) ?_
          refine lv_istore (lv' := [(13, .int 0), (11, .long j_20), (9, .long j_17), (7, .long j_14), (5, .long j_11), (4, .int i_8), (3, .int i_5), (0, .ref (ad 1)), (1, .int 1), (2, .int 1)]) hx hb dX12_works_153 hl (by decide) rfl (fun ls hl => ?_)
          refine lv_aload_n hx hb dX12_works_155 rfl (lv_at hl 7 rfl) ?_
          refine lv_iconst (v := 0) hx hb dX12_works_156 (by decide) ?_
          refine va_put (D := D) (ci := 11) (v := .int 0) (ty := .boolean) (C := RX12) (T := TX12) (N := 85) hx hb hts inX12 tyX12 tyX12_ok nmX12 hown hK hP hD hS 0 mwd_o0 rfl 44 (by decide) fl384 (fun _ h9 => h9) rfl (by decide +kernel) rfl rfl (Nat.le_of_ble_eq_true rfl) dX12_works_157 (fun H locs hP hD hS => ?_)
          have hP : va_P D vwCl (mwd y ad zw (sI σ 44 0)) H := x_trP hP mwd_p0_44
          have hD : va_D A (mwd y ad zw (sI σ 44 0)) := x_trD hD mwd_p0_44
          refine lv_iload_n hx hb dX12_works_160 rfl (lv_at hl 9 rfl) ?_
          refine lv_tableIn (tgt := 192) hx hb dX12_works_161 (by decide) (by decide) rfl (by decide) ?_
          refine lv_aload_n hx hb dX12_works_192 rfl (lv_at hl 7 rfl) ?_
          refine lv_lload hx hb dX12_works_193 (lv_at hl 4 rfl) ?_
          refine lv_lload hx hb dX12_works_195 (lv_at hl 3 rfl) ?_
          refine lv_lload hx hb dX12_works_197 (lv_at hl 2 rfl) ?_
          refine lv_lload hx hb dX12_works_199 (lv_at hl 1 rfl) ?_
          refine x_callvW (va_runV (As := [.long j_11, .long j_14, .long j_17, .long j_20]) (rest := []) ⟨hx, hb, hml, hown, hts⟩ (q_adds l D y H.size ad zw (sI σ 44 0) j_11 j_14 j_17 j_20 (by first | omega | decide) (by first | omega | decide) (by first | omega | decide) (by first | omega | decide) (by first | omega | decide) (by first | omega | decide) (by first | omega | decide) (by first | omega | decide)) (cwV 4 hts g_q_works1_1_0 rfl rfl rfl (by decide +kernel) ⟨Nat.le_of_ble_eq_true rfl, Nat.le_of_ble_eq_true rfl⟩) (x_preV (q := (RX12, TX12, 85)) hK hP hD (ci := 11) (q0 := 0) rfl mwd_o0) rfl rfl hl.1 rfl (lv_room (Nat.le_of_ble_eq_true rfl)) dX12_works_201 ⟨Nat.le_of_ble_eq_true rfl, Nat.le_of_ble_eq_true rfl⟩) hP hD hS hA (fun u H locs hw hP hD hS => ?_)
          obtain ⟨n_24, j_25, j_26⟩ := u
          try dsimp only at hw
          have hP : va_P D vwCl (mwd y ad zw (sJ (sJ (sI (sI σ 44 0) 44 n_24) 42 j_25) 43 j_26)) H := hP
          have hD : va_D A (mwd y ad zw (sJ (sJ (sI (sI σ 44 0) 44 n_24) 42 j_25) 43 j_26)) := hD
          have hw : -1000000000 ≤ j_25.toInt ∧ j_25.toInt ≤ 1000000000 ∧ 0 ≤ j_26.toInt ∧ j_26.toInt ≤ 1000000000 := hw
          refine lv_goto (tgt := 252) hx hb dX12_works_204 (by decide) ?_
          refine lv_aload_n hx hb dX12_works_252 rfl (lv_at hl 7 rfl) ?_
          refine va_get (D := D) (ci := 11) (v := .int n_24) (C := RX12) (T := TX12) (N := 85) hx hb hts inX12 hown hK hP 0 mwd_o0 rfl 44 (by decide) fl384 (fun _ h9 => h9) rfl dX12_works_253 ?_
          refine lv_if_eq (tgt := 268) hx hb dX12_works_256 (by decide) (fun c_27 => ?_) (fun c_27 => ?_)
          · have kc_27 : n_24.toInt = 0 := by have h9 := c_27; simp only [ge_iff_le, gt_iff_lt, x_lt, x_le, x_eq, ne_eq, Int32.not_lt, Int32.not_le] at h9; simp only [Int32.reduceToInt] at h9; omega
            refine lv_aload_n hx hb dX12_works_268 rfl (lv_at hl 7 rfl) ?_
            refine va_get (D := D) (ci := 11) (v := .ref (ad 63)) (C := RX12) (T := TX12) (N := 85) hx hb hts inX12 hown hK hP 0 mwd_o0 rfl 63 (by decide) fl142 (fun _ h9 => h9) rfl dX12_works_269 ?_
            refine lv_iload_n hx hb dX12_works_272 rfl (lv_at hl 8 rfl) ?_
            refine lv_dup2_11 hx hb dX12_works_273 rfl rfl ?_
            refine va_iald hx hb hK hP 43 2 mwd_a43 rfl (x_in (by decide) (by decide)) dX12_works_274 ?_
            refine lv_topi (fun i_28 ei_28 => ?_)
            have ei_28 : i_28 = (σ.2.2.1 63) (Int32.toNatClampNeg 1) := ei_28
            have gi_28 : i_28.toInt = (σ.2.2.1 63 1).toInt := by rw [ei_28]; rfl
            have bi_28 := b_at hB63 ei_28
            refine lv_iconst (v := 1) hx hb dX12_works_275 (by decide) ?_
            refine lv_iadd hx hb dX12_works_276 ?_
            refine lv_topi (fun i_29 ei_29 => ?_)
            have vi_29 : i_29.toInt = i_28.toInt + 1 := by have h9 := x_add ei_29 (by omega) (by omega); omega
            refine va_iast hx hb hK hP hD hS 43 2 mwd_a43 rfl (x_in (by decide) (by decide)) dX12_works_277 (fun H locs hP hD hS => ?_)
            obtain ⟨f_30, ef_30⟩ : ∃ z9 : Nat → Int32, z9 = (upd (σ.2.2.1 63) (Int32.toNatClampNeg 1) i_29) := ⟨_, rfl⟩
            have hP : va_P D vwCl (mwd y ad zw (tI (sJ (sJ (sI (sI σ 44 0) 44 n_24) 42 j_25) 43 j_26) 63 f_30)) H := by rw [ef_30]; exact x_trP hP mwd_s43
            have hD : va_D A (mwd y ad zw (tI (sJ (sJ (sI (sI σ 44 0) 44 n_24) 42 j_25) 43 j_26) 63 f_30)) := by rw [ef_30]; exact x_trD hD mwd_s43
            have hvf_30 : bI f_30 0 1000 := by rw [ef_30]; exact b_upd hB63 (by omega) (by omega)
            have sf_30 : (f_30 1).toInt = i_29.toInt := by rw [ef_30]; exact congrArg Int32.toInt (x_upd_same _ 1 _)
            refine lv_aload_n hx hb dX12_works_278 rfl (lv_at hl 7 rfl) ?_
            refine lv_dup hx hb dX12_works_279 rfl ?_
            refine va_get (D := D) (ci := 11) (v := .int (σ.1 73)) (C := RX12) (T := TX12) (N := 85) hx hb hts inX12 hown hK hP 0 mwd_o0 rfl 73 (by decide) fl421 (fun _ h9 => h9) rfl dX12_works_280 ?_
            refine lv_iload_n hx hb dX12_works_283 rfl (lv_at hl 9 rfl) ?_
            refine lv_bipush (v := 7) hx hb dX12_works_284 (by decide) ?_
            refine lv_icmp_ne (tgt := 293) hx hb dX12_works_286 (by decide) (fun c_31 => ?_) (fun c_31 => ?_)
            · refine lv_iconst (v := 2) hx hb dX12_works_293 (by decide) ?_
              refine lv_isub hx hb dX12_works_294 ?_
              refine lv_topi (fun i_32 ei_32 => ?_)
              have vi_32 : i_32.toInt = (σ.1 73).toInt - 2 := by have h9 := x_sub ei_32 (by omega) (by omega); omega
              refine va_put (D := D) (ci := 11) (v := .int i_32) (ty := .int) (C := RX12) (T := TX12) (N := 85) hx hb hts inX12 tyX12 tyX12_ok nmX12 hown hK hP hD hS 0 mwd_o0 rfl 73 (by decide) fl421 (fun _ h9 => h9) rfl (by decide +kernel) rfl rfl (Nat.le_of_ble_eq_true rfl) dX12_works_295 (fun H locs hP hD hS => ?_)
              have hP : va_P D vwCl (mwd y ad zw (sI (tI (sJ (sJ (sI (sI σ 44 0) 44 n_24) 42 j_25) 43 j_26) 63 f_30) 73 i_32)) H := x_trP hP mwd_p0_73
              have hD : va_D A (mwd y ad zw (sI (tI (sJ (sJ (sI (sI σ 44 0) 44 n_24) 42 j_25) 43 j_26) 63 f_30) 73 i_32)) := x_trD hD mwd_p0_73
              refine lv_iload_n hx hb dX12_works_298 rfl (lv_at hl 9 rfl) ?_
              refine lv_iconst (v := 4) hx hb dX12_works_299 (by decide) ?_
              refine lv_icmp_gt (tgt := 340) hx hb dX12_works_300 (by decide) (fun c_33 => ?_) (fun c_33 => ?_)
              · exact absurd c_33 (by decide)
              · refine lv_aload_n hx hb dX12_works_303 rfl (lv_at hl 7 rfl) ?_
                refine lv_iload_n hx hb dX12_works_304 rfl (lv_at hl 8 rfl) ?_
                refine lv_aload_n hx hb dX12_works_305 rfl (lv_at hl 7 rfl) ?_
                refine va_get (D := D) (ci := 11) (v := .long j_25) (C := RX12) (T := TX12) (N := 85) hx hb hts inX12 hown hK hP 0 mwd_o0 rfl 42 (by decide) fl387 (fun _ h9 => h9) rfl dX12_works_306 ?_
                refine lv_aload_n hx hb dX12_works_309 rfl (lv_at hl 7 rfl) ?_
                refine va_get (D := D) (ci := 11) (v := .long j_26) (C := RX12) (T := TX12) (N := 85) hx hb hts inX12 hown hK hP 0 mwd_o0 rfl 43 (by decide) fl391 (fun _ h9 => h9) rfl dX12_works_310 ?_
                refine lv_iload_n hx hb dX12_works_313 rfl (lv_at hl 9 rfl) ?_
                refine lv_iload hx hb dX12_works_314 (lv_at hl 5 rfl) ?_
                refine lv_iload_n hx hb dX12_works_316 rfl (lv_at hl 6 rfl) ?_
                refine x_callvW (va_runV (As := [.int 1, .long j_25, .long j_26, .int 1, .int i_8, .int i_5]) (rest := []) ⟨hx, hb, hml, hown, hts⟩ (q_lays1 l D y H.size ad zw (sI (tI (sJ (sJ (sI (sI σ 44 0) 44 n_24) 42 j_25) 43 j_26) 63 f_30) 73 i_32) j_25 j_26 1 i_8 i_5 (by first | omega | decide) (by first | omega | decide) (by first | omega | decide) (by first | omega | decide) hop (fun _ => by omega) (show 0 ≤ ((σ.2.2.1 62) 1).toInt from by first | omega | decide) (show ((σ.2.2.1 62) 1).toInt < 1760 from by first | omega | decide) hB57 hB58 hB62) (cwV 6 hts g_q_works1_1_1 rfl rfl rfl (by decide +kernel) ⟨Nat.le_of_ble_eq_true rfl, Nat.le_of_ble_eq_true rfl⟩) (x_preV (q := (RX12, TX12, 85)) hK hP hD (ci := 11) (q0 := 0) rfl mwd_o0) rfl rfl hl.1 rfl (lv_room (Nat.le_of_ble_eq_true rfl)) dX12_works_317 ⟨Nat.le_of_ble_eq_true rfl, Nat.le_of_ble_eq_true rfl⟩) hP hD hS hA (fun u H locs hw hP hD hS => ?_)
                obtain ⟨f_34, f_35, f_36, f_37, f_38, f_39⟩ := u
                try dsimp only at hw
                have hP : va_P D vwCl (mwd y ad zw (tI (tI (tI (tI (tJ (tJ (sI (tI (sJ (sJ (sI (sI σ 44 0) 44 n_24) 42 j_25) 43 j_26) 63 f_30) 73 i_32) 57 f_34) 58 f_35) 59 f_36) 60 f_37) 61 f_38) 62 f_39)) H := hP
                have hD : va_D A (mwd y ad zw (tI (tI (tI (tI (tJ (tJ (sI (tI (sJ (sJ (sI (sI σ 44 0) 44 n_24) 42 j_25) 43 j_26) 63 f_30) 73 i_32) 57 f_34) 58 f_35) 59 f_36) 60 f_37) 61 f_38) 62 f_39)) := hD
                have hw : (opc f_36 f_37 f_38 ∧ (f_39 1).toInt = ((σ.2.2.1 62) 1).toInt + 1 ∧ f_39 0 = (σ.2.2.1 62) 0) ∧ bJ f_34 (-1000000000) 1000000000 ∧ bJ f_35 0 1000000000 ∧ bI f_39 0 1760 := hw
                obtain ⟨hw, hg_40, hg_41, hg_42⟩ := hw
                obtain ⟨ho9, hl9, hl8⟩ := hw
                refine lv_aload_n hx hb dX12_works_320 rfl (lv_at hl 7 rfl) ?_
                refine va_get (D := D) (ci := 11) (v := .ref (ad 72)) (C := RX12) (T := TX12) (N := 85) hx hb hts inX12 hown hK hP 0 mwd_o0 rfl 72 (by decide) fl160 (fun _ h9 => h9) rfl dX12_works_321 ?_
                refine lv_aload_n hx hb dX12_works_324 rfl (lv_at hl 7 rfl) ?_
                refine va_get (D := D) (ci := 11) (v := .int i_32) (C := RX12) (T := TX12) (N := 85) hx hb hts inX12 hown hK hP 0 mwd_o0 rfl 73 (by decide) fl421 (fun _ h9 => h9) rfl dX12_works_325 ?_
                refine lv_aload_n hx hb dX12_works_328 rfl (lv_at hl 7 rfl) ?_
                refine va_get (D := D) (ci := 11) (v := .ref (ad 62)) (C := RX12) (T := TX12) (N := 85) hx hb hts inX12 hown hK hP 0 mwd_o0 rfl 62 (by decide) fl139 (fun _ h9 => h9) rfl dX12_works_329 ?_
                refine lv_iload_n hx hb dX12_works_332 rfl (lv_at hl 8 rfl) ?_
                refine va_iald hx hb hK hP 42 2 mwd_a42 rfl (x_in (by decide) (by decide)) dX12_works_333 ?_
                refine lv_topi (fun i_43 ei_43 => ?_)
                have ei_43 : i_43 = f_39 (Int32.toNatClampNeg 1) := ei_43
                have gi_43 : i_43.toInt = (f_39 1).toInt := by rw [ei_43]; rfl
                have bi_43 := b_at hg_42 ei_43
                refine lv_iconst (v := 1) hx hb dX12_works_334 (by decide) ?_
                refine lv_isub hx hb dX12_works_335 ?_
                refine lv_topi (fun i_44 ei_44 => ?_)
                have vi_44 : i_44.toInt = i_43.toInt - 1 := by have h9 := x_sub ei_44 (by omega) (by omega); omega
                refine va_iast hx hb hK hP hD hS 49 2 mwd_a49 rfl (x_in (by omega) (by omega)) dX12_works_336 (fun H locs hP hD hS => ?_)
                obtain ⟨f_45, ef_45⟩ : ∃ z9 : Nat → Int32, z9 = (upd (σ.2.2.1 72) (Int32.toNatClampNeg i_32) i_44) := ⟨_, rfl⟩
                have hP : va_P D vwCl (mwd y ad zw (tI (tI (tI (tI (tI (tJ (tJ (sI (tI (sJ (sJ (sI (sI σ 44 0) 44 n_24) 42 j_25) 43 j_26) 63 f_30) 73 i_32) 57 f_34) 58 f_35) 59 f_36) 60 f_37) 61 f_38) 62 f_39) 72 f_45)) H := by rw [ef_45]; exact x_trP hP mwd_s49
                have hD : va_D A (mwd y ad zw (tI (tI (tI (tI (tI (tJ (tJ (sI (tI (sJ (sJ (sI (sI σ 44 0) 44 n_24) 42 j_25) 43 j_26) 63 f_30) 73 i_32) 57 f_34) 58 f_35) 59 f_36) 60 f_37) 61 f_38) 62 f_39) 72 f_45)) := by rw [ef_45]; exact x_trD hD mwd_s49
                have pf_45 : PT (true :: T) f_45 (f_39 1).toInt := by rw [ef_45]; exact PT_pushN (PT_mono (by omega) hPT.2.2) (x_cl (by omega)) (by omega) (by omega)
                refine lv_goto (tgt := 626) hx hb dX12_works_337 (by decide) ?_
                refine lv_aload_n hx hb dX12_works_626 rfl (lv_at hl 7 rfl) ?_
                refine lv_dup hx hb dX12_works_627 rfl ?_
                refine va_get (D := D) (ci := 11) (v := .int i_32) (C := RX12) (T := TX12) (N := 85) hx hb hts inX12 hown hK hP 0 mwd_o0 rfl 73 (by decide) fl421 (fun _ h9 => h9) rfl dX12_works_628 ?_
                refine lv_iconst (v := 1) hx hb dX12_works_631 (by decide) ?_
                refine lv_iadd hx hb dX12_works_632 ?_
                refine lv_topi (fun i_46 ei_46 => ?_)
                have vi_46 : i_46.toInt = i_32.toInt + 1 := by have h9 := x_add ei_46 (by omega) (by omega); omega
                refine va_put (D := D) (ci := 11) (v := .int i_46) (ty := .int) (C := RX12) (T := TX12) (N := 85) hx hb hts inX12 tyX12 tyX12_ok nmX12 hown hK hP hD hS 0 mwd_o0 rfl 73 (by decide) fl421 (fun _ h9 => h9) rfl (by decide +kernel) rfl rfl (Nat.le_of_ble_eq_true rfl) dX12_works_633 (fun H locs hP hD hS => ?_)
                have hP : va_P D vwCl (mwd y ad zw (sI (tI (tI (tI (tI (tI (tJ (tJ (sI (tI (sJ (sJ (sI (sI σ 44 0) 44 n_24) 42 j_25) 43 j_26) 63 f_30) 73 i_32) 57 f_34) 58 f_35) 59 f_36) 60 f_37) 61 f_38) 62 f_39) 72 f_45) 73 i_46)) H := x_trP hP mwd_p0_73
                have hD : va_D A (mwd y ad zw (sI (tI (tI (tI (tI (tI (tJ (tJ (sI (tI (sJ (sJ (sI (sI σ 44 0) 44 n_24) 42 j_25) 43 j_26) 63 f_30) 73 i_32) 57 f_34) 58 f_35) 59 f_36) 60 f_37) 61 f_38) 62 f_39) 72 f_45) 73 i_46)) := x_trD hD mwd_p0_73
                refine lv_iconst (v := 1) hx hb dX12_works_636 (by decide) ?_
                have hP : va_P D vwCl (mwd y ad zw (tI (tI (tI (tI (tJ (tJ (sJ (sJ (sI (sJ (sJ (sI (tI (tI (tI (tI (sI σ 73 i_46) 72 f_45) 63 f_30) 67 (σ.2.2.1 67)) 66 (σ.2.2.1 66)) 44 n_24) 42 j_25) 43 j_26) 68 (σ.1 68)) 69 (σ.2.1 69)) 70 (σ.2.1 70)) 57 f_34) 58 f_35) 59 f_36) 60 f_37) 61 f_38) 62 f_39)) H := hP
                have hD : va_D A (mwd y ad zw (tI (tI (tI (tI (tJ (tJ (sJ (sJ (sI (sJ (sJ (sI (tI (tI (tI (tI (sI σ 73 i_46) 72 f_45) 63 f_30) 67 (σ.2.2.1 67)) 66 (σ.2.2.1 66)) 44 n_24) 42 j_25) 43 j_26) 68 (σ.1 68)) 69 (σ.2.1 69)) 70 (σ.2.1 70)) 57 f_34) 58 f_35) 59 f_36) 60 f_37) 61 f_38) 62 f_39)) := hD
                exact x_zretW (v := 1) (u := (i_46, f_45, f_30, (σ.2.2.1 67), (σ.2.2.1 66), n_24, j_25, j_26, (σ.1 68), (σ.2.1 69), (σ.2.1 70), f_34, f_35, f_36, f_37, f_38, f_39)) hx hb hr hQ rfl (by (try dsimp only); exact ⟨⟨Or.inr ⟨by omega, pf_45, by omega, rfl⟩, ho9, by omega, by omega, hl8⟩, hg_40, hg_41, hg_42, hvf_30⟩) hP hD hK hS dX12_works_637 hlocks
            · exact absurd c_31 (by decide)
          · have kc_27 : n_24.toInt ≠ 0 := by have h9 := c_27; simp only [ge_iff_le, gt_iff_lt, x_lt, x_le, x_eq, ne_eq, Int32.not_lt, Int32.not_le] at h9; simp only [Int32.reduceToInt] at h9; omega
            refine lv_aload_n hx hb dX12_works_259 rfl (lv_at hl 7 rfl) ?_
            refine va_get (D := D) (ci := 11) (v := .ref (ad 67)) (C := RX12) (T := TX12) (N := 85) hx hb hts inX12 hown hK hP 0 mwd_o0 rfl 67 (by decide) fl154 (fun _ h9 => h9) rfl dX12_works_260 ?_
            refine lv_iload_n hx hb dX12_works_263 rfl (lv_at hl 8 rfl) ?_
            refine lv_iconst (v := 1) hx hb dX12_works_264 (by decide) ?_
            refine va_iast hx hb hK hP hD hS 47 2 mwd_a47 rfl (x_in (by decide) (by decide)) dX12_works_265 (fun H locs hP hD hS => ?_)
            obtain ⟨f_47, ef_47⟩ : ∃ z9 : Nat → Int32, z9 = (upd (σ.2.2.1 67) (Int32.toNatClampNeg 1) 1) := ⟨_, rfl⟩
            have hP : va_P D vwCl (mwd y ad zw (tI (sJ (sJ (sI (sI σ 44 0) 44 n_24) 42 j_25) 43 j_26) 67 f_47)) H := by rw [ef_47]; exact x_trP hP mwd_s47
            have hD : va_D A (mwd y ad zw (tI (sJ (sJ (sI (sI σ 44 0) 44 n_24) 42 j_25) 43 j_26) 67 f_47)) := by rw [ef_47]; exact x_trD hD mwd_s47
            refine lv_iconst (v := 0) hx hb dX12_works_266 (by decide) ?_
            have hP : va_P D vwCl (mwd y ad zw (tI (tI (tI (tI (tJ (tJ (sJ (sJ (sI (sJ (sJ (sI (tI (tI (tI (tI (sI σ 73 (σ.1 73)) 72 (σ.2.2.1 72)) 63 (σ.2.2.1 63)) 67 f_47) 66 (σ.2.2.1 66)) 44 n_24) 42 j_25) 43 j_26) 68 (σ.1 68)) 69 (σ.2.1 69)) 70 (σ.2.1 70)) 57 (σ.2.2.2 57)) 58 (σ.2.2.2 58)) 59 (σ.2.2.1 59)) 60 (σ.2.2.1 60)) 61 (σ.2.2.1 61)) 62 (σ.2.2.1 62))) H := hP
            have hD : va_D A (mwd y ad zw (tI (tI (tI (tI (tJ (tJ (sJ (sJ (sI (sJ (sJ (sI (tI (tI (tI (tI (sI σ 73 (σ.1 73)) 72 (σ.2.2.1 72)) 63 (σ.2.2.1 63)) 67 f_47) 66 (σ.2.2.1 66)) 44 n_24) 42 j_25) 43 j_26) 68 (σ.1 68)) 69 (σ.2.1 69)) 70 (σ.2.1 70)) 57 (σ.2.2.2 57)) 58 (σ.2.2.2 58)) 59 (σ.2.2.1 59)) 60 (σ.2.2.1 60)) 61 (σ.2.2.1 61)) 62 (σ.2.2.1 62))) := hD
            exact x_zretW (v := 0) (u := ((σ.1 73), (σ.2.2.1 72), (σ.2.2.1 63), f_47, (σ.2.2.1 66), n_24, j_25, j_26, (σ.1 68), (σ.2.1 69), (σ.2.1 70), (σ.2.2.2 57), (σ.2.2.2 58), (σ.2.2.1 59), (σ.2.2.1 60), (σ.2.2.1 61), (σ.2.2.1 62))) hx hb hr hQ rfl (by (try dsimp only); exact ⟨⟨Or.inl (by rw [ef_47]; show (upd _ 1 _ 1).toInt ≠ 0; rw [x_upd_same]; decide), hop, by omega, by omega, rfl⟩, hB57, hB58, hB62, hB63⟩) hP hD hK hS dX12_works_267 hlocks
        · have kc_23 : j_21.toInt < j_22.toInt := by have h9 := x_tri j_21 j_22; (try simp only [Int64.reduceToInt] at h9); rcases h9 with ⟨g1, g2⟩ | ⟨g1, g2⟩ | ⟨g1, g2⟩ <;> first | omega | (exfalso; rw [g1] at c_23; revert c_23; decide)
          refine lv_iconst (v := 1) hx hb dX12_works_148 (by decide) ?_
          refine lv_goto (tgt := 153) hx hb dX12_works_149 (by decide) ?_
          refine lv_istore (lv' := [(13, .int 1), (11, .long j_20), (9, .long j_17), (7, .long j_14), (5, .long j_11), (4, .int i_8), (3, .int i_5), (0, .ref (ad 1)), (1, .int 1), (2, .int 1)]) hx hb dX12_works_153 hl (by decide) rfl (fun ls hl => ?_)
          refine lv_aload_n hx hb dX12_works_155 rfl (lv_at hl 7 rfl) ?_
          refine lv_iconst (v := 0) hx hb dX12_works_156 (by decide) ?_
          refine va_put (D := D) (ci := 11) (v := .int 0) (ty := .boolean) (C := RX12) (T := TX12) (N := 85) hx hb hts inX12 tyX12 tyX12_ok nmX12 hown hK hP hD hS 0 mwd_o0 rfl 44 (by decide) fl384 (fun _ h9 => h9) rfl (by decide +kernel) rfl rfl (Nat.le_of_ble_eq_true rfl) dX12_works_157 (fun H locs hP hD hS => ?_)
          have hP : va_P D vwCl (mwd y ad zw (sI σ 44 0)) H := x_trP hP mwd_p0_44
          have hD : va_D A (mwd y ad zw (sI σ 44 0)) := x_trD hD mwd_p0_44
          refine lv_iload_n hx hb dX12_works_160 rfl (lv_at hl 9 rfl) ?_
          refine lv_tableIn (tgt := 192) hx hb dX12_works_161 (by decide) (by decide) rfl (by decide) ?_
          refine lv_aload_n hx hb dX12_works_192 rfl (lv_at hl 7 rfl) ?_
          refine lv_lload hx hb dX12_works_193 (lv_at hl 4 rfl) ?_
          refine lv_lload hx hb dX12_works_195 (lv_at hl 3 rfl) ?_
          refine lv_lload hx hb dX12_works_197 (lv_at hl 2 rfl) ?_
          refine lv_lload hx hb dX12_works_199 (lv_at hl 1 rfl) ?_
          refine x_callvW (va_runV (As := [.long j_11, .long j_14, .long j_17, .long j_20]) (rest := []) ⟨hx, hb, hml, hown, hts⟩ (q_adds l D y H.size ad zw (sI σ 44 0) j_11 j_14 j_17 j_20 (by first | omega | decide) (by first | omega | decide) (by first | omega | decide) (by first | omega | decide) (by first | omega | decide) (by first | omega | decide) (by first | omega | decide) (by first | omega | decide)) (cwV 4 hts g_q_works1_1_0 rfl rfl rfl (by decide +kernel) ⟨Nat.le_of_ble_eq_true rfl, Nat.le_of_ble_eq_true rfl⟩) (x_preV (q := (RX12, TX12, 85)) hK hP hD (ci := 11) (q0 := 0) rfl mwd_o0) rfl rfl hl.1 rfl (lv_room (Nat.le_of_ble_eq_true rfl)) dX12_works_201 ⟨Nat.le_of_ble_eq_true rfl, Nat.le_of_ble_eq_true rfl⟩) hP hD hS hA (fun u H locs hw hP hD hS => ?_)
          obtain ⟨n_48, j_49, j_50⟩ := u
          try dsimp only at hw
          have hP : va_P D vwCl (mwd y ad zw (sJ (sJ (sI (sI σ 44 0) 44 n_48) 42 j_49) 43 j_50)) H := hP
          have hD : va_D A (mwd y ad zw (sJ (sJ (sI (sI σ 44 0) 44 n_48) 42 j_49) 43 j_50)) := hD
          have hw : -1000000000 ≤ j_49.toInt ∧ j_49.toInt ≤ 1000000000 ∧ 0 ≤ j_50.toInt ∧ j_50.toInt ≤ 1000000000 := hw
          refine lv_goto (tgt := 252) hx hb dX12_works_204 (by decide) ?_
          refine lv_aload_n hx hb dX12_works_252 rfl (lv_at hl 7 rfl) ?_
          refine va_get (D := D) (ci := 11) (v := .int n_48) (C := RX12) (T := TX12) (N := 85) hx hb hts inX12 hown hK hP 0 mwd_o0 rfl 44 (by decide) fl384 (fun _ h9 => h9) rfl dX12_works_253 ?_
          refine lv_if_eq (tgt := 268) hx hb dX12_works_256 (by decide) (fun c_51 => ?_) (fun c_51 => ?_)
          · have kc_51 : n_48.toInt = 0 := by have h9 := c_51; simp only [ge_iff_le, gt_iff_lt, x_lt, x_le, x_eq, ne_eq, Int32.not_lt, Int32.not_le] at h9; simp only [Int32.reduceToInt] at h9; omega
            refine lv_aload_n hx hb dX12_works_268 rfl (lv_at hl 7 rfl) ?_
            refine va_get (D := D) (ci := 11) (v := .ref (ad 63)) (C := RX12) (T := TX12) (N := 85) hx hb hts inX12 hown hK hP 0 mwd_o0 rfl 63 (by decide) fl142 (fun _ h9 => h9) rfl dX12_works_269 ?_
            refine lv_iload_n hx hb dX12_works_272 rfl (lv_at hl 8 rfl) ?_
            refine lv_dup2_11 hx hb dX12_works_273 rfl rfl ?_
            refine va_iald hx hb hK hP 43 2 mwd_a43 rfl (x_in (by decide) (by decide)) dX12_works_274 ?_
            refine lv_topi (fun i_52 ei_52 => ?_)
            have ei_52 : i_52 = (σ.2.2.1 63) (Int32.toNatClampNeg 1) := ei_52
            have gi_52 : i_52.toInt = (σ.2.2.1 63 1).toInt := by rw [ei_52]; rfl
            have bi_52 := b_at hB63 ei_52
            refine lv_iconst (v := 1) hx hb dX12_works_275 (by decide) ?_
            refine lv_iadd hx hb dX12_works_276 ?_
            refine lv_topi (fun i_53 ei_53 => ?_)
            have vi_53 : i_53.toInt = i_52.toInt + 1 := by have h9 := x_add ei_53 (by omega) (by omega); omega
            refine va_iast hx hb hK hP hD hS 43 2 mwd_a43 rfl (x_in (by decide) (by decide)) dX12_works_277 (fun H locs hP hD hS => ?_)
            obtain ⟨f_54, ef_54⟩ : ∃ z9 : Nat → Int32, z9 = (upd (σ.2.2.1 63) (Int32.toNatClampNeg 1) i_53) := ⟨_, rfl⟩
            have hP : va_P D vwCl (mwd y ad zw (tI (sJ (sJ (sI (sI σ 44 0) 44 n_48) 42 j_49) 43 j_50) 63 f_54)) H := by rw [ef_54]; exact x_trP hP mwd_s43
            have hD : va_D A (mwd y ad zw (tI (sJ (sJ (sI (sI σ 44 0) 44 n_48) 42 j_49) 43 j_50) 63 f_54)) := by rw [ef_54]; exact x_trD hD mwd_s43
            have hvf_54 : bI f_54 0 1000 := by rw [ef_54]; exact b_upd hB63 (by omega) (by omega)
            have sf_54 : (f_54 1).toInt = i_53.toInt := by rw [ef_54]; exact congrArg Int32.toInt (x_upd_same _ 1 _)
            refine lv_aload_n hx hb dX12_works_278 rfl (lv_at hl 7 rfl) ?_
            refine lv_dup hx hb dX12_works_279 rfl ?_
            refine va_get (D := D) (ci := 11) (v := .int (σ.1 73)) (C := RX12) (T := TX12) (N := 85) hx hb hts inX12 hown hK hP 0 mwd_o0 rfl 73 (by decide) fl421 (fun _ h9 => h9) rfl dX12_works_280 ?_
            refine lv_iload_n hx hb dX12_works_283 rfl (lv_at hl 9 rfl) ?_
            refine lv_bipush (v := 7) hx hb dX12_works_284 (by decide) ?_
            refine lv_icmp_ne (tgt := 293) hx hb dX12_works_286 (by decide) (fun c_55 => ?_) (fun c_55 => ?_)
            · refine lv_iconst (v := 2) hx hb dX12_works_293 (by decide) ?_
              refine lv_isub hx hb dX12_works_294 ?_
              refine lv_topi (fun i_56 ei_56 => ?_)
              have vi_56 : i_56.toInt = (σ.1 73).toInt - 2 := by have h9 := x_sub ei_56 (by omega) (by omega); omega
              refine va_put (D := D) (ci := 11) (v := .int i_56) (ty := .int) (C := RX12) (T := TX12) (N := 85) hx hb hts inX12 tyX12 tyX12_ok nmX12 hown hK hP hD hS 0 mwd_o0 rfl 73 (by decide) fl421 (fun _ h9 => h9) rfl (by decide +kernel) rfl rfl (Nat.le_of_ble_eq_true rfl) dX12_works_295 (fun H locs hP hD hS => ?_)
              have hP : va_P D vwCl (mwd y ad zw (sI (tI (sJ (sJ (sI (sI σ 44 0) 44 n_48) 42 j_49) 43 j_50) 63 f_54) 73 i_56)) H := x_trP hP mwd_p0_73
              have hD : va_D A (mwd y ad zw (sI (tI (sJ (sJ (sI (sI σ 44 0) 44 n_48) 42 j_49) 43 j_50) 63 f_54) 73 i_56)) := x_trD hD mwd_p0_73
              refine lv_iload_n hx hb dX12_works_298 rfl (lv_at hl 9 rfl) ?_
              refine lv_iconst (v := 4) hx hb dX12_works_299 (by decide) ?_
              refine lv_icmp_gt (tgt := 340) hx hb dX12_works_300 (by decide) (fun c_57 => ?_) (fun c_57 => ?_)
              · exact absurd c_57 (by decide)
              · refine lv_aload_n hx hb dX12_works_303 rfl (lv_at hl 7 rfl) ?_
                refine lv_iload_n hx hb dX12_works_304 rfl (lv_at hl 8 rfl) ?_
                refine lv_aload_n hx hb dX12_works_305 rfl (lv_at hl 7 rfl) ?_
                refine va_get (D := D) (ci := 11) (v := .long j_49) (C := RX12) (T := TX12) (N := 85) hx hb hts inX12 hown hK hP 0 mwd_o0 rfl 42 (by decide) fl387 (fun _ h9 => h9) rfl dX12_works_306 ?_
                refine lv_aload_n hx hb dX12_works_309 rfl (lv_at hl 7 rfl) ?_
                refine va_get (D := D) (ci := 11) (v := .long j_50) (C := RX12) (T := TX12) (N := 85) hx hb hts inX12 hown hK hP 0 mwd_o0 rfl 43 (by decide) fl391 (fun _ h9 => h9) rfl dX12_works_310 ?_
                refine lv_iload_n hx hb dX12_works_313 rfl (lv_at hl 9 rfl) ?_
                refine lv_iload hx hb dX12_works_314 (lv_at hl 5 rfl) ?_
                refine lv_iload_n hx hb dX12_works_316 rfl (lv_at hl 6 rfl) ?_
                refine x_callvW (va_runV (As := [.int 1, .long j_49, .long j_50, .int 1, .int i_8, .int i_5]) (rest := []) ⟨hx, hb, hml, hown, hts⟩ (q_lays1 l D y H.size ad zw (sI (tI (sJ (sJ (sI (sI σ 44 0) 44 n_48) 42 j_49) 43 j_50) 63 f_54) 73 i_56) j_49 j_50 1 i_8 i_5 (by first | omega | decide) (by first | omega | decide) (by first | omega | decide) (by first | omega | decide) hop (fun _ => by omega) (show 0 ≤ ((σ.2.2.1 62) 1).toInt from by first | omega | decide) (show ((σ.2.2.1 62) 1).toInt < 1760 from by first | omega | decide) hB57 hB58 hB62) (cwV 6 hts g_q_works1_1_1 rfl rfl rfl (by decide +kernel) ⟨Nat.le_of_ble_eq_true rfl, Nat.le_of_ble_eq_true rfl⟩) (x_preV (q := (RX12, TX12, 85)) hK hP hD (ci := 11) (q0 := 0) rfl mwd_o0) rfl rfl hl.1 rfl (lv_room (Nat.le_of_ble_eq_true rfl)) dX12_works_317 ⟨Nat.le_of_ble_eq_true rfl, Nat.le_of_ble_eq_true rfl⟩) hP hD hS hA (fun u H locs hw hP hD hS => ?_)
                obtain ⟨f_58, f_59, f_60, f_61, f_62, f_63⟩ := u
                try dsimp only at hw
                have hP : va_P D vwCl (mwd y ad zw (tI (tI (tI (tI (tJ (tJ (sI (tI (sJ (sJ (sI (sI σ 44 0) 44 n_48) 42 j_49) 43 j_50) 63 f_54) 73 i_56) 57 f_58) 58 f_59) 59 f_60) 60 f_61) 61 f_62) 62 f_63)) H := hP
                have hD : va_D A (mwd y ad zw (tI (tI (tI (tI (tJ (tJ (sI (tI (sJ (sJ (sI (sI σ 44 0) 44 n_48) 42 j_49) 43 j_50) 63 f_54) 73 i_56) 57 f_58) 58 f_59) 59 f_60) 60 f_61) 61 f_62) 62 f_63)) := hD
                have hw : (opc f_60 f_61 f_62 ∧ (f_63 1).toInt = ((σ.2.2.1 62) 1).toInt + 1 ∧ f_63 0 = (σ.2.2.1 62) 0) ∧ bJ f_58 (-1000000000) 1000000000 ∧ bJ f_59 0 1000000000 ∧ bI f_63 0 1760 := hw
                obtain ⟨hw, hg_64, hg_65, hg_66⟩ := hw
                obtain ⟨ho9, hl9, hl8⟩ := hw
                refine lv_aload_n hx hb dX12_works_320 rfl (lv_at hl 7 rfl) ?_
                refine va_get (D := D) (ci := 11) (v := .ref (ad 72)) (C := RX12) (T := TX12) (N := 85) hx hb hts inX12 hown hK hP 0 mwd_o0 rfl 72 (by decide) fl160 (fun _ h9 => h9) rfl dX12_works_321 ?_
                refine lv_aload_n hx hb dX12_works_324 rfl (lv_at hl 7 rfl) ?_
                refine va_get (D := D) (ci := 11) (v := .int i_56) (C := RX12) (T := TX12) (N := 85) hx hb hts inX12 hown hK hP 0 mwd_o0 rfl 73 (by decide) fl421 (fun _ h9 => h9) rfl dX12_works_325 ?_
                refine lv_aload_n hx hb dX12_works_328 rfl (lv_at hl 7 rfl) ?_
                refine va_get (D := D) (ci := 11) (v := .ref (ad 62)) (C := RX12) (T := TX12) (N := 85) hx hb hts inX12 hown hK hP 0 mwd_o0 rfl 62 (by decide) fl139 (fun _ h9 => h9) rfl dX12_works_329 ?_
                refine lv_iload_n hx hb dX12_works_332 rfl (lv_at hl 8 rfl) ?_
                refine va_iald hx hb hK hP 42 2 mwd_a42 rfl (x_in (by decide) (by decide)) dX12_works_333 ?_
                refine lv_topi (fun i_67 ei_67 => ?_)
                have ei_67 : i_67 = f_63 (Int32.toNatClampNeg 1) := ei_67
                have gi_67 : i_67.toInt = (f_63 1).toInt := by rw [ei_67]; rfl
                have bi_67 := b_at hg_66 ei_67
                refine lv_iconst (v := 1) hx hb dX12_works_334 (by decide) ?_
                refine lv_isub hx hb dX12_works_335 ?_
                refine lv_topi (fun i_68 ei_68 => ?_)
                have vi_68 : i_68.toInt = i_67.toInt - 1 := by have h9 := x_sub ei_68 (by omega) (by omega); omega
                refine va_iast hx hb hK hP hD hS 49 2 mwd_a49 rfl (x_in (by omega) (by omega)) dX12_works_336 (fun H locs hP hD hS => ?_)
                obtain ⟨f_69, ef_69⟩ : ∃ z9 : Nat → Int32, z9 = (upd (σ.2.2.1 72) (Int32.toNatClampNeg i_56) i_68) := ⟨_, rfl⟩
                have hP : va_P D vwCl (mwd y ad zw (tI (tI (tI (tI (tI (tJ (tJ (sI (tI (sJ (sJ (sI (sI σ 44 0) 44 n_48) 42 j_49) 43 j_50) 63 f_54) 73 i_56) 57 f_58) 58 f_59) 59 f_60) 60 f_61) 61 f_62) 62 f_63) 72 f_69)) H := by rw [ef_69]; exact x_trP hP mwd_s49
                have hD : va_D A (mwd y ad zw (tI (tI (tI (tI (tI (tJ (tJ (sI (tI (sJ (sJ (sI (sI σ 44 0) 44 n_48) 42 j_49) 43 j_50) 63 f_54) 73 i_56) 57 f_58) 58 f_59) 59 f_60) 60 f_61) 61 f_62) 62 f_63) 72 f_69)) := by rw [ef_69]; exact x_trD hD mwd_s49
                have pf_69 : PT (true :: T) f_69 (f_63 1).toInt := by rw [ef_69]; exact PT_pushN (PT_mono (by omega) hPT.2.2) (x_cl (by omega)) (by omega) (by omega)
                refine lv_goto (tgt := 626) hx hb dX12_works_337 (by decide) ?_
                refine lv_aload_n hx hb dX12_works_626 rfl (lv_at hl 7 rfl) ?_
                refine lv_dup hx hb dX12_works_627 rfl ?_
                refine va_get (D := D) (ci := 11) (v := .int i_56) (C := RX12) (T := TX12) (N := 85) hx hb hts inX12 hown hK hP 0 mwd_o0 rfl 73 (by decide) fl421 (fun _ h9 => h9) rfl dX12_works_628 ?_
                refine lv_iconst (v := 1) hx hb dX12_works_631 (by decide) ?_
                refine lv_iadd hx hb dX12_works_632 ?_
                refine lv_topi (fun i_70 ei_70 => ?_)
                have vi_70 : i_70.toInt = i_56.toInt + 1 := by have h9 := x_add ei_70 (by omega) (by omega); omega
                refine va_put (D := D) (ci := 11) (v := .int i_70) (ty := .int) (C := RX12) (T := TX12) (N := 85) hx hb hts inX12 tyX12 tyX12_ok nmX12 hown hK hP hD hS 0 mwd_o0 rfl 73 (by decide) fl421 (fun _ h9 => h9) rfl (by decide +kernel) rfl rfl (Nat.le_of_ble_eq_true rfl) dX12_works_633 (fun H locs hP hD hS => ?_)
                have hP : va_P D vwCl (mwd y ad zw (sI (tI (tI (tI (tI (tI (tJ (tJ (sI (tI (sJ (sJ (sI (sI σ 44 0) 44 n_48) 42 j_49) 43 j_50) 63 f_54) 73 i_56) 57 f_58) 58 f_59) 59 f_60) 60 f_61) 61 f_62) 62 f_63) 72 f_69) 73 i_70)) H := x_trP hP mwd_p0_73
                have hD : va_D A (mwd y ad zw (sI (tI (tI (tI (tI (tI (tJ (tJ (sI (tI (sJ (sJ (sI (sI σ 44 0) 44 n_48) 42 j_49) 43 j_50) 63 f_54) 73 i_56) 57 f_58) 58 f_59) 59 f_60) 60 f_61) 61 f_62) 62 f_63) 72 f_69) 73 i_70)) := x_trD hD mwd_p0_73
                refine lv_iconst (v := 1) hx hb dX12_works_636 (by decide) ?_
                have hP : va_P D vwCl (mwd y ad zw (tI (tI (tI (tI (tJ (tJ (sJ (sJ (sI (sJ (sJ (sI (tI (tI (tI (tI (sI σ 73 i_70) 72 f_69) 63 f_54) 67 (σ.2.2.1 67)) 66 (σ.2.2.1 66)) 44 n_48) 42 j_49) 43 j_50) 68 (σ.1 68)) 69 (σ.2.1 69)) 70 (σ.2.1 70)) 57 f_58) 58 f_59) 59 f_60) 60 f_61) 61 f_62) 62 f_63)) H := hP
                have hD : va_D A (mwd y ad zw (tI (tI (tI (tI (tJ (tJ (sJ (sJ (sI (sJ (sJ (sI (tI (tI (tI (tI (sI σ 73 i_70) 72 f_69) 63 f_54) 67 (σ.2.2.1 67)) 66 (σ.2.2.1 66)) 44 n_48) 42 j_49) 43 j_50) 68 (σ.1 68)) 69 (σ.2.1 69)) 70 (σ.2.1 70)) 57 f_58) 58 f_59) 59 f_60) 60 f_61) 61 f_62) 62 f_63)) := hD
                exact x_zretW (v := 1) (u := (i_70, f_69, f_54, (σ.2.2.1 67), (σ.2.2.1 66), n_48, j_49, j_50, (σ.1 68), (σ.2.1 69), (σ.2.1 70), f_58, f_59, f_60, f_61, f_62, f_63)) hx hb hr hQ rfl (by (try dsimp only); exact ⟨⟨Or.inr ⟨by omega, pf_69, by omega, rfl⟩, ho9, by omega, by omega, hl8⟩, hg_64, hg_65, hg_66, hvf_54⟩) hP hD hK hS dX12_works_637 hlocks
            · exact absurd c_55 (by decide)
          · have kc_51 : n_48.toInt ≠ 0 := by have h9 := c_51; simp only [ge_iff_le, gt_iff_lt, x_lt, x_le, x_eq, ne_eq, Int32.not_lt, Int32.not_le] at h9; simp only [Int32.reduceToInt] at h9; omega
            refine lv_aload_n hx hb dX12_works_259 rfl (lv_at hl 7 rfl) ?_
            refine va_get (D := D) (ci := 11) (v := .ref (ad 67)) (C := RX12) (T := TX12) (N := 85) hx hb hts inX12 hown hK hP 0 mwd_o0 rfl 67 (by decide) fl154 (fun _ h9 => h9) rfl dX12_works_260 ?_
            refine lv_iload_n hx hb dX12_works_263 rfl (lv_at hl 8 rfl) ?_
            refine lv_iconst (v := 1) hx hb dX12_works_264 (by decide) ?_
            refine va_iast hx hb hK hP hD hS 47 2 mwd_a47 rfl (x_in (by decide) (by decide)) dX12_works_265 (fun H locs hP hD hS => ?_)
            obtain ⟨f_71, ef_71⟩ : ∃ z9 : Nat → Int32, z9 = (upd (σ.2.2.1 67) (Int32.toNatClampNeg 1) 1) := ⟨_, rfl⟩
            have hP : va_P D vwCl (mwd y ad zw (tI (sJ (sJ (sI (sI σ 44 0) 44 n_48) 42 j_49) 43 j_50) 67 f_71)) H := by rw [ef_71]; exact x_trP hP mwd_s47
            have hD : va_D A (mwd y ad zw (tI (sJ (sJ (sI (sI σ 44 0) 44 n_48) 42 j_49) 43 j_50) 67 f_71)) := by rw [ef_71]; exact x_trD hD mwd_s47
            refine lv_iconst (v := 0) hx hb dX12_works_266 (by decide) ?_
            have hP : va_P D vwCl (mwd y ad zw (tI (tI (tI (tI (tJ (tJ (sJ (sJ (sI (sJ (sJ (sI (tI (tI (tI (tI (sI σ 73 (σ.1 73)) 72 (σ.2.2.1 72)) 63 (σ.2.2.1 63)) 67 f_71) 66 (σ.2.2.1 66)) 44 n_48) 42 j_49) 43 j_50) 68 (σ.1 68)) 69 (σ.2.1 69)) 70 (σ.2.1 70)) 57 (σ.2.2.2 57)) 58 (σ.2.2.2 58)) 59 (σ.2.2.1 59)) 60 (σ.2.2.1 60)) 61 (σ.2.2.1 61)) 62 (σ.2.2.1 62))) H := hP
            have hD : va_D A (mwd y ad zw (tI (tI (tI (tI (tJ (tJ (sJ (sJ (sI (sJ (sJ (sI (tI (tI (tI (tI (sI σ 73 (σ.1 73)) 72 (σ.2.2.1 72)) 63 (σ.2.2.1 63)) 67 f_71) 66 (σ.2.2.1 66)) 44 n_48) 42 j_49) 43 j_50) 68 (σ.1 68)) 69 (σ.2.1 69)) 70 (σ.2.1 70)) 57 (σ.2.2.2 57)) 58 (σ.2.2.2 58)) 59 (σ.2.2.1 59)) 60 (σ.2.2.1 60)) 61 (σ.2.2.1 61)) 62 (σ.2.2.1 62))) := hD
            exact x_zretW (v := 0) (u := ((σ.1 73), (σ.2.2.1 72), (σ.2.2.1 63), f_71, (σ.2.2.1 66), n_48, j_49, j_50, (σ.1 68), (σ.2.1 69), (σ.2.1 70), (σ.2.2.2 57), (σ.2.2.2 58), (σ.2.2.1 59), (σ.2.2.1 60), (σ.2.2.1 61), (σ.2.2.1 62))) hx hb hr hQ rfl (by (try dsimp only); exact ⟨⟨Or.inl (by rw [ef_71]; show (upd _ 1 _ 1).toInt ≠ 0; rw [x_upd_same]; decide), hop, by omega, by omega, rfl⟩, hB57, hB58, hB62, hB63⟩) hP hD hK hS dX12_works_267 hlocks
      · exact absurd c_6 (by decide)
    · exact absurd c_3 (by decide)
  · have kc_2 : i_1.toInt = 1000 := by have h9 := c_2; simp only [ge_iff_le, gt_iff_lt, x_lt, x_le, x_eq, ne_eq, Int32.not_lt, Int32.not_le] at h9; simp only [Int32.reduceToInt] at h9; omega
    refine lv_aload_n hx hb dX12_works_12 rfl (lv_at hl 0 rfl) ?_
    refine va_get (D := D) (ci := 11) (v := .ref (ad 67)) (C := RX12) (T := TX12) (N := 85) hx hb hts inX12 hown hK hP 0 mwd_o0 rfl 67 (by decide) fl154 (fun _ h9 => h9) rfl dX12_works_13 ?_
    refine lv_iload_n hx hb dX12_works_16 rfl (lv_at hl 1 rfl) ?_
    refine lv_iconst (v := 2) hx hb dX12_works_17 (by decide) ?_
    refine va_iast hx hb hK hP hD hS 47 2 mwd_a47 rfl (x_in (by decide) (by decide)) dX12_works_18 (fun H locs hP hD hS => ?_)
    obtain ⟨f_72, ef_72⟩ : ∃ z9 : Nat → Int32, z9 = (upd (σ.2.2.1 67) (Int32.toNatClampNeg 1) 2) := ⟨_, rfl⟩
    have hP : va_P D vwCl (mwd y ad zw (tI σ 67 f_72)) H := by rw [ef_72]; exact x_trP hP mwd_s47
    have hD : va_D A (mwd y ad zw (tI σ 67 f_72)) := by rw [ef_72]; exact x_trD hD mwd_s47
    refine lv_iconst (v := 0) hx hb dX12_works_19 (by decide) ?_
    have hP : va_P D vwCl (mwd y ad zw (tI (tI (tI (tI (tJ (tJ (sJ (sJ (sI (sJ (sJ (sI (tI (tI (tI (tI (sI σ 73 (σ.1 73)) 72 (σ.2.2.1 72)) 63 (σ.2.2.1 63)) 67 f_72) 66 (σ.2.2.1 66)) 44 (σ.1 44)) 42 (σ.2.1 42)) 43 (σ.2.1 43)) 68 (σ.1 68)) 69 (σ.2.1 69)) 70 (σ.2.1 70)) 57 (σ.2.2.2 57)) 58 (σ.2.2.2 58)) 59 (σ.2.2.1 59)) 60 (σ.2.2.1 60)) 61 (σ.2.2.1 61)) 62 (σ.2.2.1 62))) H := hP
    have hD : va_D A (mwd y ad zw (tI (tI (tI (tI (tJ (tJ (sJ (sJ (sI (sJ (sJ (sI (tI (tI (tI (tI (sI σ 73 (σ.1 73)) 72 (σ.2.2.1 72)) 63 (σ.2.2.1 63)) 67 f_72) 66 (σ.2.2.1 66)) 44 (σ.1 44)) 42 (σ.2.1 42)) 43 (σ.2.1 43)) 68 (σ.1 68)) 69 (σ.2.1 69)) 70 (σ.2.1 70)) 57 (σ.2.2.2 57)) 58 (σ.2.2.2 58)) 59 (σ.2.2.1 59)) 60 (σ.2.2.1 60)) 61 (σ.2.2.1 61)) 62 (σ.2.2.1 62))) := hD
    exact x_zretW (v := 0) (u := ((σ.1 73), (σ.2.2.1 72), (σ.2.2.1 63), f_72, (σ.2.2.1 66), (σ.1 44), (σ.2.1 42), (σ.2.1 43), (σ.1 68), (σ.2.1 69), (σ.2.1 70), (σ.2.2.2 57), (σ.2.2.2 58), (σ.2.2.1 59), (σ.2.2.1 60), (σ.2.2.1 61), (σ.2.2.1 62))) hx hb hr hQ rfl (by (try dsimp only); exact ⟨⟨Or.inl (by rw [ef_72]; show (upd _ 1 _ 1).toInt ≠ 0; rw [x_upd_same]; decide), hop, by omega, by omega, rfl⟩, hB57, hB58, hB62, hB63⟩) hP hD hK hS dX12_works_20 hlocks

def v_q_works1_2 : List Cond := .code yX12_works cX12_works 15 (some .boolean) :: ([.fieldLink RX12 142 "SlopeRunnerModel" "steps" "[I", .fieldLink RX12 160 "SlopeRunnerModel" "pile" "[I", .fieldLink RX12 421 "SlopeRunnerModel" "piled" "I", .fieldLink RX12 124 "SlopeRunnerModel" "valueAbove" "[J", .fieldLink RX12 127 "SlopeRunnerModel" "valueBelow" "[J", .fieldLink RX12 384 "SlopeRunnerModel" "isStuck" "Z", .fieldLink RX12 387 "SlopeRunnerModel" "up" "J", .fieldLink RX12 391 "SlopeRunnerModel" "down" "J", .fieldLink RX12 139 "SlopeRunnerModel" "laid" "[I", .fieldLink RX12 154 "SlopeRunnerModel" "state" "[I"] ++ ((wsV RX12 408 RX12 yX12_takesOff v_q_takesOff) ++ ((wsV RX12 433 RX12 yX12_lays v_q_lays1) ++ wsX120)))
theorem g_q_works1_2_0 : GoodIn v_q_works1_2 (wsV RX12 408 RX12 yX12_takesOff v_q_takesOff) := goodIn_sub (fun w h => List.mem_cons_of_mem _ (List.mem_append_right _ (List.mem_append_left _ h))) (by decide +kernel)
theorem g_q_works1_2_1 : GoodIn v_q_works1_2 (wsV RX12 433 RX12 yX12_lays v_q_lays1) := goodIn_sub (fun w h => List.mem_cons_of_mem _ (List.mem_append_right _ (List.mem_append_right _ (List.mem_append_left _ h)))) (by decide +kernel)
set_option maxHeartbeats 4000000 in
set_option maxRecDepth 100000 in
theorem q_works1_2 (l : Launch) (D : va_G) (y : Nat → ClassId) (sz : Nat) (ad : Nat → Nat) (zw : Nat → Nat → Int32) (σ : OS) (T : List Bool) (hp : (σ.1 73).toInt = (T.length : Int) + 2) (hT : T.length ≤ 700) (hPT : PT (true :: true :: T) (σ.2.2.1 72) (σ.2.2.1 62 1).toInt) (hop : opc (σ.2.2.1 59) (σ.2.2.1 60) (σ.2.2.1 61)) (hl0 : 0 ≤ (σ.2.2.1 62 1).toInt) (hl1 : (σ.2.2.1 62 1).toInt < 1760) (hB57 : bJ (σ.2.2.2 57) (-1000000000) 1000000000) (hB58 : bJ (σ.2.2.2 58) 0 1000000000) (hB62 : bI (σ.2.2.1 62) 0 1760) (hB63 : bI (σ.2.2.1 63) 0 1000) : Met l yX12_works v_q_works1_2 ({ frames := 4, cells := 0, slots := 0, locals := 108 } : Room) (va_Pc [.ref (ad 1), .int 1, .int 2] (xPre D (xT y) (mwd y ad zw σ) sz)) (va_Qi (fun (r : Int32) (u : Int32 × (Nat → Int32) × (Nat → Int32) × (Nat → Int32) × (Nat → Int32) × Int32 × Int64 × Int64 × Int32 × Int64 × Int64 × (Nat → Int64) × (Nat → Int64) × (Nat → Int32) × (Nat → Int32) × (Nat → Int32) × (Nat → Int32)) => (((u.2.2.2.1 1).toInt ≠ 0 ∨ (u.1.toInt = (T.length : Int) + 1 ∧ PT (true :: T) u.2.1 (u.2.2.2.2.2.2.2.2.2.2.2.2.2.2.2.2 1).toInt ∧ (u.2.2.1 1).toInt = (σ.2.2.1 63 1).toInt + 1 ∧ u.2.2.2.1 = σ.2.2.1 67)) ∧ opc u.2.2.2.2.2.2.2.2.2.2.2.2.2.1 u.2.2.2.2.2.2.2.2.2.2.2.2.2.2.1 u.2.2.2.2.2.2.2.2.2.2.2.2.2.2.2.1 ∧ (σ.2.2.1 62 1).toInt ≤ (u.2.2.2.2.2.2.2.2.2.2.2.2.2.2.2.2 1).toInt ∧ (u.2.2.2.2.2.2.2.2.2.2.2.2.2.2.2.2 1).toInt - (σ.2.2.1 62 1).toInt ≤ (u.2.2.1 1).toInt - (σ.2.2.1 63 1).toInt ∧ u.2.2.2.2.2.2.2.2.2.2.2.2.2.2.2.2 0 = σ.2.2.1 62 0) ∧ bJ u.2.2.2.2.2.2.2.2.2.2.2.1 (-1000000000) 1000000000 ∧ bJ u.2.2.2.2.2.2.2.2.2.2.2.2.1 0 1000000000 ∧ bI u.2.2.2.2.2.2.2.2.2.2.2.2.2.2.2.2 0 1760 ∧ bI u.2.2.1 0 1000) (fun (u : Int32 × (Nat → Int32) × (Nat → Int32) × (Nat → Int32) × (Nat → Int32) × Int32 × Int64 × Int64 × Int32 × Int64 × Int64 × (Nat → Int64) × (Nat → Int64) × (Nat → Int32) × (Nat → Int32) × (Nat → Int32) × (Nat → Int32)) => xB D (xT y) (va_A (mwd y ad zw σ) sz) (mwd y ad zw (tI (tI (tI (tI (tJ (tJ (sJ (sJ (sI (sJ (sJ (sI (tI (tI (tI (tI (sI σ 73 u.1) 72 u.2.1) 63 u.2.2.1) 67 u.2.2.2.1) 66 u.2.2.2.2.1) 44 u.2.2.2.2.2.1) 42 u.2.2.2.2.2.2.1) 43 u.2.2.2.2.2.2.2.1) 68 u.2.2.2.2.2.2.2.2.1) 69 u.2.2.2.2.2.2.2.2.2.1) 70 u.2.2.2.2.2.2.2.2.2.2.1) 57 u.2.2.2.2.2.2.2.2.2.2.2.1) 58 u.2.2.2.2.2.2.2.2.2.2.2.2.1) 59 u.2.2.2.2.2.2.2.2.2.2.2.2.2.1) 60 u.2.2.2.2.2.2.2.2.2.2.2.2.2.2.1) 61 u.2.2.2.2.2.2.2.2.2.2.2.2.2.2.2.1) 62 u.2.2.2.2.2.2.2.2.2.2.2.2.2.2.2.2))) (va_A (mwd y ad zw σ) sz)) 0 0 (va_A (mwd y ad zw σ) sz) := by
  refine x_meti (cc := cX12_works) (maxL := 15) (by decide) rfl (Nat.le_of_ble_eq_true rfl) ?_
  intro p e s m below meth c A H locs Q hx hb hml hown hts hr hlocks hmn hA hP hK hD hS ls hl hQ
  have hl : lv_has ls 15 [(0, .ref (ad 1)), (1, .int 1), (2, .int 2)] := hl
  have fl142 := hts (.fieldLink RX12 142 "SlopeRunnerModel" "steps" "[I") (List.mem_of_getElem? (i := 1) rfl)
  have inX12 : ∀ w ∈ wsX120, w ∈ v_q_works1_2 := (fun w h => List.mem_cons_of_mem _ (List.mem_append_right _ (List.mem_append_right _ (List.mem_append_right _ h))))
  have kk_1000 : (1000 : Int32).toInt = 1000 := rfl
  have fl160 := hts (.fieldLink RX12 160 "SlopeRunnerModel" "pile" "[I") (List.mem_of_getElem? (i := 2) rfl)
  have fl421 := hts (.fieldLink RX12 421 "SlopeRunnerModel" "piled" "I") (List.mem_of_getElem? (i := 3) rfl)
  have kk_1 : (1 : Int32).toInt = 1 := rfl
  have kk_2 : (2 : Int32).toInt = 2 := rfl
  have fl124 := hts (.fieldLink RX12 124 "SlopeRunnerModel" "valueAbove" "[J") (List.mem_of_getElem? (i := 4) rfl)
  have kk_1760 : (1760 : Int32).toInt = 1760 := rfl
  have fl127 := hts (.fieldLink RX12 127 "SlopeRunnerModel" "valueBelow" "[J") (List.mem_of_getElem? (i := 5) rfl)
  have fl384 := hts (.fieldLink RX12 384 "SlopeRunnerModel" "isStuck" "Z") (List.mem_of_getElem? (i := 6) rfl)
  have kk_0 : (0 : Int32).toInt = 0 := rfl
  have fl387 := hts (.fieldLink RX12 387 "SlopeRunnerModel" "up" "J") (List.mem_of_getElem? (i := 7) rfl)
  have fl391 := hts (.fieldLink RX12 391 "SlopeRunnerModel" "down" "J") (List.mem_of_getElem? (i := 8) rfl)
  have fl139 := hts (.fieldLink RX12 139 "SlopeRunnerModel" "laid" "[I") (List.mem_of_getElem? (i := 9) rfl)
  have fl154 := hts (.fieldLink RX12 154 "SlopeRunnerModel" "state" "[I") (List.mem_of_getElem? (i := 10) rfl)
  refine lv_aload_n hx hb dX12_works_0 rfl (lv_at hl 0 rfl) ?_
  refine va_get (D := D) (ci := 11) (v := .ref (ad 63)) (C := RX12) (T := TX12) (N := 85) hx hb hts inX12 hown hK hP 0 mwd_o0 rfl 63 (by decide) fl142 (fun _ h9 => h9) rfl dX12_works_1 ?_
  refine lv_iload_n hx hb dX12_works_4 rfl (lv_at hl 1 rfl) ?_
  refine va_iald hx hb hK hP 43 2 mwd_a43 rfl (x_in (by decide) (by decide)) dX12_works_5 ?_
  refine lv_topi (fun i_1 ei_1 => ?_)
  have ei_1 : i_1 = (σ.2.2.1 63) (Int32.toNatClampNeg 1) := ei_1
  have gi_1 : i_1.toInt = (σ.2.2.1 63 1).toInt := by rw [ei_1]; rfl
  have bi_1 := b_at hB63 ei_1
  refine lv_sipush (v := 1000) hx hb dX12_works_6 (by decide) ?_
  refine lv_icmp_ne (tgt := 21) hx hb dX12_works_9 (by decide) (fun c_2 => ?_) (fun c_2 => ?_)
  · have kc_2 : i_1.toInt ≠ 1000 := by have h9 := c_2; simp only [ge_iff_le, gt_iff_lt, x_lt, x_le, x_eq, ne_eq, Int32.not_lt, Int32.not_le] at h9; simp only [Int32.reduceToInt] at h9; omega
    refine lv_iload_n hx hb dX12_works_21 rfl (lv_at hl 2 rfl) ?_
    refine lv_bipush (v := 7) hx hb dX12_works_22 (by decide) ?_
    refine lv_icmp_ne (tgt := 41) hx hb dX12_works_24 (by decide) (fun c_3 => ?_) (fun c_3 => ?_)
    · refine lv_aload_n hx hb dX12_works_41 rfl (lv_at hl 0 rfl) ?_
      refine va_get (D := D) (ci := 11) (v := .ref (ad 72)) (C := RX12) (T := TX12) (N := 85) hx hb hts inX12 hown hK hP 0 mwd_o0 rfl 72 (by decide) fl160 (fun _ h9 => h9) rfl dX12_works_42 ?_
      refine lv_aload_n hx hb dX12_works_45 rfl (lv_at hl 0 rfl) ?_
      refine va_get (D := D) (ci := 11) (v := .int (σ.1 73)) (C := RX12) (T := TX12) (N := 85) hx hb hts inX12 hown hK hP 0 mwd_o0 rfl 73 (by decide) fl421 (fun _ h9 => h9) rfl dX12_works_46 ?_
      refine lv_iconst (v := 1) hx hb dX12_works_49 (by decide) ?_
      refine lv_isub hx hb dX12_works_50 ?_
      refine lv_topi (fun i_4 ei_4 => ?_)
      have vi_4 : i_4.toInt = (σ.1 73).toInt - 1 := by have h9 := x_sub ei_4 (by omega) (by omega); omega
      refine va_iald hx hb hK hP 49 2 mwd_a49 rfl (x_in (by omega) (by omega)) dX12_works_51 ?_
      refine lv_topi (fun i_5 ei_5 => ?_)
      have ei_5 : i_5 = (σ.2.2.1 72) (Int32.toNatClampNeg i_4) := ei_5
      have gi_5 := PT_N hPT ei_5 (x_cl (by simp only [List.length_cons]; omega))
      refine lv_istore_n (lv' := [(3, .int i_5), (0, .ref (ad 1)), (1, .int 1), (2, .int 2)]) hx hb dX12_works_52 rfl hl (by decide) rfl (fun ls hl => ?_)
      refine lv_iload_n hx hb dX12_works_53 rfl (lv_at hl 3 rfl) ?_
      refine lv_bipush (v := 7) hx hb dX12_works_54 (by decide) ?_
      refine lv_icmp_ne (tgt := 63) hx hb dX12_works_56 (by decide) (fun c_6 => ?_) (fun c_6 => ?_)
      · refine lv_aload_n hx hb dX12_works_63 rfl (lv_at hl 1 rfl) ?_
        refine va_get (D := D) (ci := 11) (v := .ref (ad 72)) (C := RX12) (T := TX12) (N := 85) hx hb hts inX12 hown hK hP 0 mwd_o0 rfl 72 (by decide) fl160 (fun _ h9 => h9) rfl dX12_works_64 ?_
        refine lv_aload_n hx hb dX12_works_67 rfl (lv_at hl 1 rfl) ?_
        refine va_get (D := D) (ci := 11) (v := .int (σ.1 73)) (C := RX12) (T := TX12) (N := 85) hx hb hts inX12 hown hK hP 0 mwd_o0 rfl 73 (by decide) fl421 (fun _ h9 => h9) rfl dX12_works_68 ?_
        refine lv_iconst (v := 2) hx hb dX12_works_71 (by decide) ?_
        refine lv_isub hx hb dX12_works_72 ?_
        refine lv_topi (fun i_7 ei_7 => ?_)
        have vi_7 : i_7.toInt = (σ.1 73).toInt - 2 := by have h9 := x_sub ei_7 (by omega) (by omega); omega
        refine va_iald hx hb hK hP 49 2 mwd_a49 rfl (x_in (by omega) (by omega)) dX12_works_73 ?_
        refine lv_topi (fun i_8 ei_8 => ?_)
        have ei_8 : i_8 = (σ.2.2.1 72) (Int32.toNatClampNeg i_7) := ei_8
        have gi_8 := PT_N hPT.2 ei_8 (x_cl (by omega))
        refine lv_istore (lv' := [(4, .int i_8), (3, .int i_5), (0, .ref (ad 1)), (1, .int 1), (2, .int 2)]) hx hb dX12_works_74 hl (by decide) rfl (fun ls hl => ?_)
        refine lv_aload_n hx hb dX12_works_76 rfl (lv_at hl 2 rfl) ?_
        refine va_get (D := D) (ci := 11) (v := .ref (ad 57)) (C := RX12) (T := TX12) (N := 85) hx hb hts inX12 hown hK hP 0 mwd_o0 rfl 57 (by decide) fl124 (fun _ h9 => h9) rfl dX12_works_77 ?_
        refine lv_sipush (v := 1760) hx hb dX12_works_80 (by decide) ?_
        refine lv_iload_n hx hb dX12_works_83 rfl (lv_at hl 3 rfl) ?_
        refine lv_imul hx hb dX12_works_84 ?_
        refine lv_topi (fun i_9 ei_9 => ?_)
        obtain rfl : i_9 = 1760 := ei_9.trans (by decide)
        refine lv_iload hx hb dX12_works_85 (lv_at hl 0 rfl) ?_
        refine lv_iadd hx hb dX12_works_87 ?_
        refine lv_topi (fun i_10 ei_10 => ?_)
        have vi_10 : i_10.toInt = 1760 + i_8.toInt := by have h9 := x_add ei_10 (by omega) (by omega); omega
        refine va_lald hx hb hK hP 37 3 mwd_a37 rfl (x_in (by omega) (by omega)) dX12_works_88 ?_
        refine lv_topl (fun j_11 ej_11 => ?_)
        have ej_11 : j_11 = (σ.2.2.2 57) (Int32.toNatClampNeg i_10) := ej_11
        have bj_11 := b_atJ hB57 ej_11
        refine lv_lstore (lv' := [(5, .long j_11), (4, .int i_8), (3, .int i_5), (0, .ref (ad 1)), (1, .int 1), (2, .int 2)]) hx hb dX12_works_89 hl (by decide) rfl (fun ls hl => ?_)
        refine lv_aload_n hx hb dX12_works_91 rfl (lv_at hl 3 rfl) ?_
        refine va_get (D := D) (ci := 11) (v := .ref (ad 58)) (C := RX12) (T := TX12) (N := 85) hx hb hts inX12 hown hK hP 0 mwd_o0 rfl 58 (by decide) fl127 (fun _ h9 => h9) rfl dX12_works_92 ?_
        refine lv_sipush (v := 1760) hx hb dX12_works_95 (by decide) ?_
        refine lv_iload_n hx hb dX12_works_98 rfl (lv_at hl 4 rfl) ?_
        refine lv_imul hx hb dX12_works_99 ?_
        refine lv_topi (fun i_12 ei_12 => ?_)
        obtain rfl : i_12 = 1760 := ei_12.trans (by decide)
        refine lv_iload hx hb dX12_works_100 (lv_at hl 1 rfl) ?_
        refine lv_iadd hx hb dX12_works_102 ?_
        refine lv_topi (fun i_13 ei_13 => ?_)
        have vi_13 : i_13.toInt = 1760 + i_8.toInt := by have h9 := x_add ei_13 (by omega) (by omega); omega
        refine va_lald hx hb hK hP 38 3 mwd_a38 rfl (x_in (by omega) (by omega)) dX12_works_103 ?_
        refine lv_topl (fun j_14 ej_14 => ?_)
        have ej_14 : j_14 = (σ.2.2.2 58) (Int32.toNatClampNeg i_13) := ej_14
        have bj_14 := b_atJ hB58 ej_14
        refine lv_lstore (lv' := [(7, .long j_14), (5, .long j_11), (4, .int i_8), (3, .int i_5), (0, .ref (ad 1)), (1, .int 1), (2, .int 2)]) hx hb dX12_works_104 hl (by decide) rfl (fun ls hl => ?_)
        refine lv_aload_n hx hb dX12_works_106 rfl (lv_at hl 4 rfl) ?_
        refine va_get (D := D) (ci := 11) (v := .ref (ad 57)) (C := RX12) (T := TX12) (N := 85) hx hb hts inX12 hown hK hP 0 mwd_o0 rfl 57 (by decide) fl124 (fun _ h9 => h9) rfl dX12_works_107 ?_
        refine lv_sipush (v := 1760) hx hb dX12_works_110 (by decide) ?_
        refine lv_iload_n hx hb dX12_works_113 rfl (lv_at hl 5 rfl) ?_
        refine lv_imul hx hb dX12_works_114 ?_
        refine lv_topi (fun i_15 ei_15 => ?_)
        obtain rfl : i_15 = 1760 := ei_15.trans (by decide)
        refine lv_iload_n hx hb dX12_works_115 rfl (lv_at hl 3 rfl) ?_
        refine lv_iadd hx hb dX12_works_116 ?_
        refine lv_topi (fun i_16 ei_16 => ?_)
        have vi_16 : i_16.toInt = 1760 + i_5.toInt := by have h9 := x_add ei_16 (by omega) (by omega); omega
        refine va_lald hx hb hK hP 37 3 mwd_a37 rfl (x_in (by omega) (by omega)) dX12_works_117 ?_
        refine lv_topl (fun j_17 ej_17 => ?_)
        have ej_17 : j_17 = (σ.2.2.2 57) (Int32.toNatClampNeg i_16) := ej_17
        have bj_17 := b_atJ hB57 ej_17
        refine lv_lstore (lv' := [(9, .long j_17), (7, .long j_14), (5, .long j_11), (4, .int i_8), (3, .int i_5), (0, .ref (ad 1)), (1, .int 1), (2, .int 2)]) hx hb dX12_works_118 hl (by decide) rfl (fun ls hl => ?_)
        refine lv_aload_n hx hb dX12_works_120 rfl (lv_at hl 5 rfl) ?_
        refine va_get (D := D) (ci := 11) (v := .ref (ad 58)) (C := RX12) (T := TX12) (N := 85) hx hb hts inX12 hown hK hP 0 mwd_o0 rfl 58 (by decide) fl127 (fun _ h9 => h9) rfl dX12_works_121 ?_
        refine lv_sipush (v := 1760) hx hb dX12_works_124 (by decide) ?_
        refine lv_iload_n hx hb dX12_works_127 rfl (lv_at hl 6 rfl) ?_
        refine lv_imul hx hb dX12_works_128 ?_
        refine lv_topi (fun i_18 ei_18 => ?_)
        obtain rfl : i_18 = 1760 := ei_18.trans (by decide)
        refine lv_iload_n hx hb dX12_works_129 rfl (lv_at hl 4 rfl) ?_
        refine lv_iadd hx hb dX12_works_130 ?_
        refine lv_topi (fun i_19 ei_19 => ?_)
        have vi_19 : i_19.toInt = 1760 + i_5.toInt := by have h9 := x_add ei_19 (by omega) (by omega); omega
        refine va_lald hx hb hK hP 38 3 mwd_a38 rfl (x_in (by omega) (by omega)) dX12_works_131 ?_
        refine lv_topl (fun j_20 ej_20 => ?_)
        have ej_20 : j_20 = (σ.2.2.2 58) (Int32.toNatClampNeg i_19) := ej_20
        have bj_20 := b_atJ hB58 ej_20
        refine lv_lstore (lv' := [(11, .long j_20), (9, .long j_17), (7, .long j_14), (5, .long j_11), (4, .int i_8), (3, .int i_5), (0, .ref (ad 1)), (1, .int 1), (2, .int 2)]) hx hb dX12_works_132 hl (by decide) rfl (fun ls hl => ?_)
        refine lv_lload hx hb dX12_works_134 (lv_at hl 3 rfl) ?_
        refine lv_lload hx hb dX12_works_136 (lv_at hl 0 rfl) ?_
        refine lv_lmul hx hb dX12_works_138 ?_
        refine lv_topl (fun j_21 ej_21 => ?_)
        have vj_21 := x_mulB ej_21 (by omega) (by omega) (by omega) (by omega)
        refine lv_lload hx hb dX12_works_139 (lv_at hl 1 rfl) ?_
        refine lv_lload hx hb dX12_works_141 (lv_at hl 2 rfl) ?_
        refine lv_lmul hx hb dX12_works_143 ?_
        refine lv_topl (fun j_22 ej_22 => ?_)
        have vj_22 := x_mulB ej_22 (by omega) (by omega) (by omega) (by omega)
        refine W.lcmp hx hb dX12_works_144 ?_
        refine lv_if_ge (tgt := 152) hx hb dX12_works_145 (by decide) (fun c_23 => ?_) (fun c_23 => ?_)
        · have kc_23 : j_21.toInt ≥ j_22.toInt := by have h9 := x_tri j_21 j_22; (try simp only [Int64.reduceToInt] at h9); rcases h9 with ⟨g1, g2⟩ | ⟨g1, g2⟩ | ⟨g1, g2⟩ <;> first | omega | (exfalso; rw [g1] at c_23; revert c_23; decide)
          refine lv_iconst (v := 0) hx hb dX12_works_152 (by decide) ?_
          refine lv_istore (lv' := [(13, .int 0), (11, .long j_20), (9, .long j_17), (7, .long j_14), (5, .long j_11), (4, .int i_8), (3, .int i_5), (0, .ref (ad 1)), (1, .int 1), (2, .int 2)]) hx hb dX12_works_153 hl (by decide) rfl (fun ls hl => ?_)
          refine lv_aload_n hx hb dX12_works_155 rfl (lv_at hl 7 rfl) ?_
          refine lv_iconst (v := 0) hx hb dX12_works_156 (by decide) ?_
          refine va_put (D := D) (ci := 11) (v := .int 0) (ty := .boolean) (C := RX12) (T := TX12) (N := 85) hx hb hts inX12 tyX12 tyX12_ok nmX12 hown hK hP hD hS 0 mwd_o0 rfl 44 (by decide) fl384 (fun _ h9 => h9) rfl (by decide +kernel) rfl rfl (Nat.le_of_ble_eq_true rfl) dX12_works_157 (fun H locs hP hD hS => ?_)
          have hP : va_P D vwCl (mwd y ad zw (sI σ 44 0)) H := x_trP hP mwd_p0_44
          have hD : va_D A (mwd y ad zw (sI σ 44 0)) := x_trD hD mwd_p0_44
          refine lv_iload_n hx hb dX12_works_160 rfl (lv_at hl 9 rfl) ?_
          refine lv_tableIn (tgt := 207) hx hb dX12_works_161 (by decide) (by decide) rfl (by decide) ?_
          refine lv_aload_n hx hb dX12_works_207 rfl (lv_at hl 7 rfl) ?_
          refine lv_lload hx hb dX12_works_208 (lv_at hl 4 rfl) ?_
          refine lv_lload hx hb dX12_works_210 (lv_at hl 3 rfl) ?_
          refine lv_lload hx hb dX12_works_212 (lv_at hl 2 rfl) ?_
          refine lv_lload hx hb dX12_works_214 (lv_at hl 1 rfl) ?_
          refine x_callvW (va_runV (As := [.long j_11, .long j_14, .long j_17, .long j_20]) (rest := []) ⟨hx, hb, hml, hown, hts⟩ (q_takesOff l D y H.size ad zw (sI σ 44 0) j_11 j_14 j_17 j_20 (by first | omega | decide) (by first | omega | decide) (by first | omega | decide) (by first | omega | decide) (by first | omega | decide) (by first | omega | decide) (by first | omega | decide) (by first | omega | decide)) (cwV 4 hts g_q_works1_2_0 rfl rfl rfl (by decide +kernel) ⟨Nat.le_of_ble_eq_true rfl, Nat.le_of_ble_eq_true rfl⟩) (x_preV (q := (RX12, TX12, 85)) hK hP hD (ci := 11) (q0 := 0) rfl mwd_o0) rfl rfl hl.1 rfl (lv_room (Nat.le_of_ble_eq_true rfl)) dX12_works_216 ⟨Nat.le_of_ble_eq_true rfl, Nat.le_of_ble_eq_true rfl⟩) hP hD hS hA (fun u H locs hw hP hD hS => ?_)
          obtain ⟨n_24, j_25, j_26⟩ := u
          try dsimp only at hw
          have hP : va_P D vwCl (mwd y ad zw (sJ (sJ (sI (sI σ 44 0) 44 n_24) 42 j_25) 43 j_26)) H := hP
          have hD : va_D A (mwd y ad zw (sJ (sJ (sI (sI σ 44 0) 44 n_24) 42 j_25) 43 j_26)) := hD
          have hw : -1000000000 ≤ j_25.toInt ∧ j_25.toInt ≤ 1000000000 ∧ 0 ≤ j_26.toInt ∧ j_26.toInt ≤ 1000000000 := hw
          refine lv_goto (tgt := 252) hx hb dX12_works_219 (by decide) ?_
          refine lv_aload_n hx hb dX12_works_252 rfl (lv_at hl 7 rfl) ?_
          refine va_get (D := D) (ci := 11) (v := .int n_24) (C := RX12) (T := TX12) (N := 85) hx hb hts inX12 hown hK hP 0 mwd_o0 rfl 44 (by decide) fl384 (fun _ h9 => h9) rfl dX12_works_253 ?_
          refine lv_if_eq (tgt := 268) hx hb dX12_works_256 (by decide) (fun c_27 => ?_) (fun c_27 => ?_)
          · have kc_27 : n_24.toInt = 0 := by have h9 := c_27; simp only [ge_iff_le, gt_iff_lt, x_lt, x_le, x_eq, ne_eq, Int32.not_lt, Int32.not_le] at h9; simp only [Int32.reduceToInt] at h9; omega
            refine lv_aload_n hx hb dX12_works_268 rfl (lv_at hl 7 rfl) ?_
            refine va_get (D := D) (ci := 11) (v := .ref (ad 63)) (C := RX12) (T := TX12) (N := 85) hx hb hts inX12 hown hK hP 0 mwd_o0 rfl 63 (by decide) fl142 (fun _ h9 => h9) rfl dX12_works_269 ?_
            refine lv_iload_n hx hb dX12_works_272 rfl (lv_at hl 8 rfl) ?_
            refine lv_dup2_11 hx hb dX12_works_273 rfl rfl ?_
            refine va_iald hx hb hK hP 43 2 mwd_a43 rfl (x_in (by decide) (by decide)) dX12_works_274 ?_
            refine lv_topi (fun i_28 ei_28 => ?_)
            have ei_28 : i_28 = (σ.2.2.1 63) (Int32.toNatClampNeg 1) := ei_28
            have gi_28 : i_28.toInt = (σ.2.2.1 63 1).toInt := by rw [ei_28]; rfl
            have bi_28 := b_at hB63 ei_28
            refine lv_iconst (v := 1) hx hb dX12_works_275 (by decide) ?_
            refine lv_iadd hx hb dX12_works_276 ?_
            refine lv_topi (fun i_29 ei_29 => ?_)
            have vi_29 : i_29.toInt = i_28.toInt + 1 := by have h9 := x_add ei_29 (by omega) (by omega); omega
            refine va_iast hx hb hK hP hD hS 43 2 mwd_a43 rfl (x_in (by decide) (by decide)) dX12_works_277 (fun H locs hP hD hS => ?_)
            obtain ⟨f_30, ef_30⟩ : ∃ z9 : Nat → Int32, z9 = (upd (σ.2.2.1 63) (Int32.toNatClampNeg 1) i_29) := ⟨_, rfl⟩
            have hP : va_P D vwCl (mwd y ad zw (tI (sJ (sJ (sI (sI σ 44 0) 44 n_24) 42 j_25) 43 j_26) 63 f_30)) H := by rw [ef_30]; exact x_trP hP mwd_s43
            have hD : va_D A (mwd y ad zw (tI (sJ (sJ (sI (sI σ 44 0) 44 n_24) 42 j_25) 43 j_26) 63 f_30)) := by rw [ef_30]; exact x_trD hD mwd_s43
            have hvf_30 : bI f_30 0 1000 := by rw [ef_30]; exact b_upd hB63 (by omega) (by omega)
            have sf_30 : (f_30 1).toInt = i_29.toInt := by rw [ef_30]; exact congrArg Int32.toInt (x_upd_same _ 1 _)
            refine lv_aload_n hx hb dX12_works_278 rfl (lv_at hl 7 rfl) ?_
            refine lv_dup hx hb dX12_works_279 rfl ?_
            refine va_get (D := D) (ci := 11) (v := .int (σ.1 73)) (C := RX12) (T := TX12) (N := 85) hx hb hts inX12 hown hK hP 0 mwd_o0 rfl 73 (by decide) fl421 (fun _ h9 => h9) rfl dX12_works_280 ?_
            refine lv_iload_n hx hb dX12_works_283 rfl (lv_at hl 9 rfl) ?_
            refine lv_bipush (v := 7) hx hb dX12_works_284 (by decide) ?_
            refine lv_icmp_ne (tgt := 293) hx hb dX12_works_286 (by decide) (fun c_31 => ?_) (fun c_31 => ?_)
            · refine lv_iconst (v := 2) hx hb dX12_works_293 (by decide) ?_
              refine lv_isub hx hb dX12_works_294 ?_
              refine lv_topi (fun i_32 ei_32 => ?_)
              have vi_32 : i_32.toInt = (σ.1 73).toInt - 2 := by have h9 := x_sub ei_32 (by omega) (by omega); omega
              refine va_put (D := D) (ci := 11) (v := .int i_32) (ty := .int) (C := RX12) (T := TX12) (N := 85) hx hb hts inX12 tyX12 tyX12_ok nmX12 hown hK hP hD hS 0 mwd_o0 rfl 73 (by decide) fl421 (fun _ h9 => h9) rfl (by decide +kernel) rfl rfl (Nat.le_of_ble_eq_true rfl) dX12_works_295 (fun H locs hP hD hS => ?_)
              have hP : va_P D vwCl (mwd y ad zw (sI (tI (sJ (sJ (sI (sI σ 44 0) 44 n_24) 42 j_25) 43 j_26) 63 f_30) 73 i_32)) H := x_trP hP mwd_p0_73
              have hD : va_D A (mwd y ad zw (sI (tI (sJ (sJ (sI (sI σ 44 0) 44 n_24) 42 j_25) 43 j_26) 63 f_30) 73 i_32)) := x_trD hD mwd_p0_73
              refine lv_iload_n hx hb dX12_works_298 rfl (lv_at hl 9 rfl) ?_
              refine lv_iconst (v := 4) hx hb dX12_works_299 (by decide) ?_
              refine lv_icmp_gt (tgt := 340) hx hb dX12_works_300 (by decide) (fun c_33 => ?_) (fun c_33 => ?_)
              · exact absurd c_33 (by decide)
              · refine lv_aload_n hx hb dX12_works_303 rfl (lv_at hl 7 rfl) ?_
                refine lv_iload_n hx hb dX12_works_304 rfl (lv_at hl 8 rfl) ?_
                refine lv_aload_n hx hb dX12_works_305 rfl (lv_at hl 7 rfl) ?_
                refine va_get (D := D) (ci := 11) (v := .long j_25) (C := RX12) (T := TX12) (N := 85) hx hb hts inX12 hown hK hP 0 mwd_o0 rfl 42 (by decide) fl387 (fun _ h9 => h9) rfl dX12_works_306 ?_
                refine lv_aload_n hx hb dX12_works_309 rfl (lv_at hl 7 rfl) ?_
                refine va_get (D := D) (ci := 11) (v := .long j_26) (C := RX12) (T := TX12) (N := 85) hx hb hts inX12 hown hK hP 0 mwd_o0 rfl 43 (by decide) fl391 (fun _ h9 => h9) rfl dX12_works_310 ?_
                refine lv_iload_n hx hb dX12_works_313 rfl (lv_at hl 9 rfl) ?_
                refine lv_iload hx hb dX12_works_314 (lv_at hl 5 rfl) ?_
                refine lv_iload_n hx hb dX12_works_316 rfl (lv_at hl 6 rfl) ?_
                refine x_callvW (va_runV (As := [.int 1, .long j_25, .long j_26, .int 2, .int i_8, .int i_5]) (rest := []) ⟨hx, hb, hml, hown, hts⟩ (q_lays1 l D y H.size ad zw (sI (tI (sJ (sJ (sI (sI σ 44 0) 44 n_24) 42 j_25) 43 j_26) 63 f_30) 73 i_32) j_25 j_26 2 i_8 i_5 (by first | omega | decide) (by first | omega | decide) (by first | omega | decide) (by first | omega | decide) hop (fun _ => by omega) (show 0 ≤ ((σ.2.2.1 62) 1).toInt from by first | omega | decide) (show ((σ.2.2.1 62) 1).toInt < 1760 from by first | omega | decide) hB57 hB58 hB62) (cwV 6 hts g_q_works1_2_1 rfl rfl rfl (by decide +kernel) ⟨Nat.le_of_ble_eq_true rfl, Nat.le_of_ble_eq_true rfl⟩) (x_preV (q := (RX12, TX12, 85)) hK hP hD (ci := 11) (q0 := 0) rfl mwd_o0) rfl rfl hl.1 rfl (lv_room (Nat.le_of_ble_eq_true rfl)) dX12_works_317 ⟨Nat.le_of_ble_eq_true rfl, Nat.le_of_ble_eq_true rfl⟩) hP hD hS hA (fun u H locs hw hP hD hS => ?_)
                obtain ⟨f_34, f_35, f_36, f_37, f_38, f_39⟩ := u
                try dsimp only at hw
                have hP : va_P D vwCl (mwd y ad zw (tI (tI (tI (tI (tJ (tJ (sI (tI (sJ (sJ (sI (sI σ 44 0) 44 n_24) 42 j_25) 43 j_26) 63 f_30) 73 i_32) 57 f_34) 58 f_35) 59 f_36) 60 f_37) 61 f_38) 62 f_39)) H := hP
                have hD : va_D A (mwd y ad zw (tI (tI (tI (tI (tJ (tJ (sI (tI (sJ (sJ (sI (sI σ 44 0) 44 n_24) 42 j_25) 43 j_26) 63 f_30) 73 i_32) 57 f_34) 58 f_35) 59 f_36) 60 f_37) 61 f_38) 62 f_39)) := hD
                have hw : (opc f_36 f_37 f_38 ∧ (f_39 1).toInt = ((σ.2.2.1 62) 1).toInt + 1 ∧ f_39 0 = (σ.2.2.1 62) 0) ∧ bJ f_34 (-1000000000) 1000000000 ∧ bJ f_35 0 1000000000 ∧ bI f_39 0 1760 := hw
                obtain ⟨hw, hg_40, hg_41, hg_42⟩ := hw
                obtain ⟨ho9, hl9, hl8⟩ := hw
                refine lv_aload_n hx hb dX12_works_320 rfl (lv_at hl 7 rfl) ?_
                refine va_get (D := D) (ci := 11) (v := .ref (ad 72)) (C := RX12) (T := TX12) (N := 85) hx hb hts inX12 hown hK hP 0 mwd_o0 rfl 72 (by decide) fl160 (fun _ h9 => h9) rfl dX12_works_321 ?_
                refine lv_aload_n hx hb dX12_works_324 rfl (lv_at hl 7 rfl) ?_
                refine va_get (D := D) (ci := 11) (v := .int i_32) (C := RX12) (T := TX12) (N := 85) hx hb hts inX12 hown hK hP 0 mwd_o0 rfl 73 (by decide) fl421 (fun _ h9 => h9) rfl dX12_works_325 ?_
                refine lv_aload_n hx hb dX12_works_328 rfl (lv_at hl 7 rfl) ?_
                refine va_get (D := D) (ci := 11) (v := .ref (ad 62)) (C := RX12) (T := TX12) (N := 85) hx hb hts inX12 hown hK hP 0 mwd_o0 rfl 62 (by decide) fl139 (fun _ h9 => h9) rfl dX12_works_329 ?_
                refine lv_iload_n hx hb dX12_works_332 rfl (lv_at hl 8 rfl) ?_
                refine va_iald hx hb hK hP 42 2 mwd_a42 rfl (x_in (by decide) (by decide)) dX12_works_333 ?_
                refine lv_topi (fun i_43 ei_43 => ?_)
                have ei_43 : i_43 = f_39 (Int32.toNatClampNeg 1) := ei_43
                have gi_43 : i_43.toInt = (f_39 1).toInt := by rw [ei_43]; rfl
                have bi_43 := b_at hg_42 ei_43
                refine lv_iconst (v := 1) hx hb dX12_works_334 (by decide) ?_
                refine lv_isub hx hb dX12_works_335 ?_
                refine lv_topi (fun i_44 ei_44 => ?_)
                have vi_44 : i_44.toInt = i_43.toInt - 1 := by have h9 := x_sub ei_44 (by omega) (by omega); omega
                refine va_iast hx hb hK hP hD hS 49 2 mwd_a49 rfl (x_in (by omega) (by omega)) dX12_works_336 (fun H locs hP hD hS => ?_)
                obtain ⟨f_45, ef_45⟩ : ∃ z9 : Nat → Int32, z9 = (upd (σ.2.2.1 72) (Int32.toNatClampNeg i_32) i_44) := ⟨_, rfl⟩
                have hP : va_P D vwCl (mwd y ad zw (tI (tI (tI (tI (tI (tJ (tJ (sI (tI (sJ (sJ (sI (sI σ 44 0) 44 n_24) 42 j_25) 43 j_26) 63 f_30) 73 i_32) 57 f_34) 58 f_35) 59 f_36) 60 f_37) 61 f_38) 62 f_39) 72 f_45)) H := by rw [ef_45]; exact x_trP hP mwd_s49
                have hD : va_D A (mwd y ad zw (tI (tI (tI (tI (tI (tJ (tJ (sI (tI (sJ (sJ (sI (sI σ 44 0) 44 n_24) 42 j_25) 43 j_26) 63 f_30) 73 i_32) 57 f_34) 58 f_35) 59 f_36) 60 f_37) 61 f_38) 62 f_39) 72 f_45)) := by rw [ef_45]; exact x_trD hD mwd_s49
                have pf_45 : PT (true :: T) f_45 (f_39 1).toInt := by rw [ef_45]; exact PT_pushN (PT_mono (by omega) hPT.2.2) (x_cl (by omega)) (by omega) (by omega)
                refine lv_goto (tgt := 626) hx hb dX12_works_337 (by decide) ?_
                refine lv_aload_n hx hb dX12_works_626 rfl (lv_at hl 7 rfl) ?_
                refine lv_dup hx hb dX12_works_627 rfl ?_
                refine va_get (D := D) (ci := 11) (v := .int i_32) (C := RX12) (T := TX12) (N := 85) hx hb hts inX12 hown hK hP 0 mwd_o0 rfl 73 (by decide) fl421 (fun _ h9 => h9) rfl dX12_works_628 ?_
                refine lv_iconst (v := 1) hx hb dX12_works_631 (by decide) ?_
                refine lv_iadd hx hb dX12_works_632 ?_
                refine lv_topi (fun i_46 ei_46 => ?_)
                have vi_46 : i_46.toInt = i_32.toInt + 1 := by have h9 := x_add ei_46 (by omega) (by omega); omega
                refine va_put (D := D) (ci := 11) (v := .int i_46) (ty := .int) (C := RX12) (T := TX12) (N := 85) hx hb hts inX12 tyX12 tyX12_ok nmX12 hown hK hP hD hS 0 mwd_o0 rfl 73 (by decide) fl421 (fun _ h9 => h9) rfl (by decide +kernel) rfl rfl (Nat.le_of_ble_eq_true rfl) dX12_works_633 (fun H locs hP hD hS => ?_)
                have hP : va_P D vwCl (mwd y ad zw (sI (tI (tI (tI (tI (tI (tJ (tJ (sI (tI (sJ (sJ (sI (sI σ 44 0) 44 n_24) 42 j_25) 43 j_26) 63 f_30) 73 i_32) 57 f_34) 58 f_35) 59 f_36) 60 f_37) 61 f_38) 62 f_39) 72 f_45) 73 i_46)) H := x_trP hP mwd_p0_73
                have hD : va_D A (mwd y ad zw (sI (tI (tI (tI (tI (tI (tJ (tJ (sI (tI (sJ (sJ (sI (sI σ 44 0) 44 n_24) 42 j_25) 43 j_26) 63 f_30) 73 i_32) 57 f_34) 58 f_35) 59 f_36) 60 f_37) 61 f_38) 62 f_39) 72 f_45) 73 i_46)) := x_trD hD mwd_p0_73
                refine lv_iconst (v := 1) hx hb dX12_works_636 (by decide) ?_
                have hP : va_P D vwCl (mwd y ad zw (tI (tI (tI (tI (tJ (tJ (sJ (sJ (sI (sJ (sJ (sI (tI (tI (tI (tI (sI σ 73 i_46) 72 f_45) 63 f_30) 67 (σ.2.2.1 67)) 66 (σ.2.2.1 66)) 44 n_24) 42 j_25) 43 j_26) 68 (σ.1 68)) 69 (σ.2.1 69)) 70 (σ.2.1 70)) 57 f_34) 58 f_35) 59 f_36) 60 f_37) 61 f_38) 62 f_39)) H := hP
                have hD : va_D A (mwd y ad zw (tI (tI (tI (tI (tJ (tJ (sJ (sJ (sI (sJ (sJ (sI (tI (tI (tI (tI (sI σ 73 i_46) 72 f_45) 63 f_30) 67 (σ.2.2.1 67)) 66 (σ.2.2.1 66)) 44 n_24) 42 j_25) 43 j_26) 68 (σ.1 68)) 69 (σ.2.1 69)) 70 (σ.2.1 70)) 57 f_34) 58 f_35) 59 f_36) 60 f_37) 61 f_38) 62 f_39)) := hD
                exact x_zretW (v := 1) (u := (i_46, f_45, f_30, (σ.2.2.1 67), (σ.2.2.1 66), n_24, j_25, j_26, (σ.1 68), (σ.2.1 69), (σ.2.1 70), f_34, f_35, f_36, f_37, f_38, f_39)) hx hb hr hQ rfl (by (try dsimp only); exact ⟨⟨Or.inr ⟨by omega, pf_45, by omega, rfl⟩, ho9, by omega, by omega, hl8⟩, hg_40, hg_41, hg_42, hvf_30⟩) hP hD hK hS dX12_works_637 hlocks
            · exact absurd c_31 (by decide)
          · have kc_27 : n_24.toInt ≠ 0 := by have h9 := c_27; simp only [ge_iff_le, gt_iff_lt, x_lt, x_le, x_eq, ne_eq, Int32.not_lt, Int32.not_le] at h9; simp only [Int32.reduceToInt] at h9; omega
            refine lv_aload_n hx hb dX12_works_259 rfl (lv_at hl 7 rfl) ?_
            refine va_get (D := D) (ci := 11) (v := .ref (ad 67)) (C := RX12) (T := TX12) (N := 85) hx hb hts inX12 hown hK hP 0 mwd_o0 rfl 67 (by decide) fl154 (fun _ h9 => h9) rfl dX12_works_260 ?_
            refine lv_iload_n hx hb dX12_works_263 rfl (lv_at hl 8 rfl) ?_
            refine lv_iconst (v := 1) hx hb dX12_works_264 (by decide) ?_
            refine va_iast hx hb hK hP hD hS 47 2 mwd_a47 rfl (x_in (by decide) (by decide)) dX12_works_265 (fun H locs hP hD hS => ?_)
            obtain ⟨f_47, ef_47⟩ : ∃ z9 : Nat → Int32, z9 = (upd (σ.2.2.1 67) (Int32.toNatClampNeg 1) 1) := ⟨_, rfl⟩
            have hP : va_P D vwCl (mwd y ad zw (tI (sJ (sJ (sI (sI σ 44 0) 44 n_24) 42 j_25) 43 j_26) 67 f_47)) H := by rw [ef_47]; exact x_trP hP mwd_s47
            have hD : va_D A (mwd y ad zw (tI (sJ (sJ (sI (sI σ 44 0) 44 n_24) 42 j_25) 43 j_26) 67 f_47)) := by rw [ef_47]; exact x_trD hD mwd_s47
            refine lv_iconst (v := 0) hx hb dX12_works_266 (by decide) ?_
            have hP : va_P D vwCl (mwd y ad zw (tI (tI (tI (tI (tJ (tJ (sJ (sJ (sI (sJ (sJ (sI (tI (tI (tI (tI (sI σ 73 (σ.1 73)) 72 (σ.2.2.1 72)) 63 (σ.2.2.1 63)) 67 f_47) 66 (σ.2.2.1 66)) 44 n_24) 42 j_25) 43 j_26) 68 (σ.1 68)) 69 (σ.2.1 69)) 70 (σ.2.1 70)) 57 (σ.2.2.2 57)) 58 (σ.2.2.2 58)) 59 (σ.2.2.1 59)) 60 (σ.2.2.1 60)) 61 (σ.2.2.1 61)) 62 (σ.2.2.1 62))) H := hP
            have hD : va_D A (mwd y ad zw (tI (tI (tI (tI (tJ (tJ (sJ (sJ (sI (sJ (sJ (sI (tI (tI (tI (tI (sI σ 73 (σ.1 73)) 72 (σ.2.2.1 72)) 63 (σ.2.2.1 63)) 67 f_47) 66 (σ.2.2.1 66)) 44 n_24) 42 j_25) 43 j_26) 68 (σ.1 68)) 69 (σ.2.1 69)) 70 (σ.2.1 70)) 57 (σ.2.2.2 57)) 58 (σ.2.2.2 58)) 59 (σ.2.2.1 59)) 60 (σ.2.2.1 60)) 61 (σ.2.2.1 61)) 62 (σ.2.2.1 62))) := hD
            exact x_zretW (v := 0) (u := ((σ.1 73), (σ.2.2.1 72), (σ.2.2.1 63), f_47, (σ.2.2.1 66), n_24, j_25, j_26, (σ.1 68), (σ.2.1 69), (σ.2.1 70), (σ.2.2.2 57), (σ.2.2.2 58), (σ.2.2.1 59), (σ.2.2.1 60), (σ.2.2.1 61), (σ.2.2.1 62))) hx hb hr hQ rfl (by (try dsimp only); exact ⟨⟨Or.inl (by rw [ef_47]; show (upd _ 1 _ 1).toInt ≠ 0; rw [x_upd_same]; decide), hop, by omega, by omega, rfl⟩, hB57, hB58, hB62, hB63⟩) hP hD hK hS dX12_works_267 hlocks
        · have kc_23 : j_21.toInt < j_22.toInt := by have h9 := x_tri j_21 j_22; (try simp only [Int64.reduceToInt] at h9); rcases h9 with ⟨g1, g2⟩ | ⟨g1, g2⟩ | ⟨g1, g2⟩ <;> first | omega | (exfalso; rw [g1] at c_23; revert c_23; decide)
          refine lv_iconst (v := 1) hx hb dX12_works_148 (by decide) ?_
          refine lv_goto (tgt := 153) hx hb dX12_works_149 (by decide) ?_
          refine lv_istore (lv' := [(13, .int 1), (11, .long j_20), (9, .long j_17), (7, .long j_14), (5, .long j_11), (4, .int i_8), (3, .int i_5), (0, .ref (ad 1)), (1, .int 1), (2, .int 2)]) hx hb dX12_works_153 hl (by decide) rfl (fun ls hl => ?_)
          refine lv_aload_n hx hb dX12_works_155 rfl (lv_at hl 7 rfl) ?_
          refine lv_iconst (v := 0) hx hb dX12_works_156 (by decide) ?_
          refine va_put (D := D) (ci := 11) (v := .int 0) (ty := .boolean) (C := RX12) (T := TX12) (N := 85) hx hb hts inX12 tyX12 tyX12_ok nmX12 hown hK hP hD hS 0 mwd_o0 rfl 44 (by decide) fl384 (fun _ h9 => h9) rfl (by decide +kernel) rfl rfl (Nat.le_of_ble_eq_true rfl) dX12_works_157 (fun H locs hP hD hS => ?_)
          have hP : va_P D vwCl (mwd y ad zw (sI σ 44 0)) H := x_trP hP mwd_p0_44
          have hD : va_D A (mwd y ad zw (sI σ 44 0)) := x_trD hD mwd_p0_44
          refine lv_iload_n hx hb dX12_works_160 rfl (lv_at hl 9 rfl) ?_
          refine lv_tableIn (tgt := 207) hx hb dX12_works_161 (by decide) (by decide) rfl (by decide) ?_
          refine lv_aload_n hx hb dX12_works_207 rfl (lv_at hl 7 rfl) ?_
          refine lv_lload hx hb dX12_works_208 (lv_at hl 4 rfl) ?_
          refine lv_lload hx hb dX12_works_210 (lv_at hl 3 rfl) ?_
          refine lv_lload hx hb dX12_works_212 (lv_at hl 2 rfl) ?_
          refine lv_lload hx hb dX12_works_214 (lv_at hl 1 rfl) ?_
          refine x_callvW (va_runV (As := [.long j_11, .long j_14, .long j_17, .long j_20]) (rest := []) ⟨hx, hb, hml, hown, hts⟩ (q_takesOff l D y H.size ad zw (sI σ 44 0) j_11 j_14 j_17 j_20 (by first | omega | decide) (by first | omega | decide) (by first | omega | decide) (by first | omega | decide) (by first | omega | decide) (by first | omega | decide) (by first | omega | decide) (by first | omega | decide)) (cwV 4 hts g_q_works1_2_0 rfl rfl rfl (by decide +kernel) ⟨Nat.le_of_ble_eq_true rfl, Nat.le_of_ble_eq_true rfl⟩) (x_preV (q := (RX12, TX12, 85)) hK hP hD (ci := 11) (q0 := 0) rfl mwd_o0) rfl rfl hl.1 rfl (lv_room (Nat.le_of_ble_eq_true rfl)) dX12_works_216 ⟨Nat.le_of_ble_eq_true rfl, Nat.le_of_ble_eq_true rfl⟩) hP hD hS hA (fun u H locs hw hP hD hS => ?_)
          obtain ⟨n_48, j_49, j_50⟩ := u
          try dsimp only at hw
          have hP : va_P D vwCl (mwd y ad zw (sJ (sJ (sI (sI σ 44 0) 44 n_48) 42 j_49) 43 j_50)) H := hP
          have hD : va_D A (mwd y ad zw (sJ (sJ (sI (sI σ 44 0) 44 n_48) 42 j_49) 43 j_50)) := hD
          have hw : -1000000000 ≤ j_49.toInt ∧ j_49.toInt ≤ 1000000000 ∧ 0 ≤ j_50.toInt ∧ j_50.toInt ≤ 1000000000 := hw
          refine lv_goto (tgt := 252) hx hb dX12_works_219 (by decide) ?_
          refine lv_aload_n hx hb dX12_works_252 rfl (lv_at hl 7 rfl) ?_
          refine va_get (D := D) (ci := 11) (v := .int n_48) (C := RX12) (T := TX12) (N := 85) hx hb hts inX12 hown hK hP 0 mwd_o0 rfl 44 (by decide) fl384 (fun _ h9 => h9) rfl dX12_works_253 ?_
          refine lv_if_eq (tgt := 268) hx hb dX12_works_256 (by decide) (fun c_51 => ?_) (fun c_51 => ?_)
          · have kc_51 : n_48.toInt = 0 := by have h9 := c_51; simp only [ge_iff_le, gt_iff_lt, x_lt, x_le, x_eq, ne_eq, Int32.not_lt, Int32.not_le] at h9; simp only [Int32.reduceToInt] at h9; omega
            refine lv_aload_n hx hb dX12_works_268 rfl (lv_at hl 7 rfl) ?_
            refine va_get (D := D) (ci := 11) (v := .ref (ad 63)) (C := RX12) (T := TX12) (N := 85) hx hb hts inX12 hown hK hP 0 mwd_o0 rfl 63 (by decide) fl142 (fun _ h9 => h9) rfl dX12_works_269 ?_
            refine lv_iload_n hx hb dX12_works_272 rfl (lv_at hl 8 rfl) ?_
            refine lv_dup2_11 hx hb dX12_works_273 rfl rfl ?_
            refine va_iald hx hb hK hP 43 2 mwd_a43 rfl (x_in (by decide) (by decide)) dX12_works_274 ?_
            refine lv_topi (fun i_52 ei_52 => ?_)
            have ei_52 : i_52 = (σ.2.2.1 63) (Int32.toNatClampNeg 1) := ei_52
            have gi_52 : i_52.toInt = (σ.2.2.1 63 1).toInt := by rw [ei_52]; rfl
            have bi_52 := b_at hB63 ei_52
            refine lv_iconst (v := 1) hx hb dX12_works_275 (by decide) ?_
            refine lv_iadd hx hb dX12_works_276 ?_
            refine lv_topi (fun i_53 ei_53 => ?_)
            have vi_53 : i_53.toInt = i_52.toInt + 1 := by have h9 := x_add ei_53 (by omega) (by omega); omega
            refine va_iast hx hb hK hP hD hS 43 2 mwd_a43 rfl (x_in (by decide) (by decide)) dX12_works_277 (fun H locs hP hD hS => ?_)
            obtain ⟨f_54, ef_54⟩ : ∃ z9 : Nat → Int32, z9 = (upd (σ.2.2.1 63) (Int32.toNatClampNeg 1) i_53) := ⟨_, rfl⟩
            have hP : va_P D vwCl (mwd y ad zw (tI (sJ (sJ (sI (sI σ 44 0) 44 n_48) 42 j_49) 43 j_50) 63 f_54)) H := by rw [ef_54]; exact x_trP hP mwd_s43
            have hD : va_D A (mwd y ad zw (tI (sJ (sJ (sI (sI σ 44 0) 44 n_48) 42 j_49) 43 j_50) 63 f_54)) := by rw [ef_54]; exact x_trD hD mwd_s43
            have hvf_54 : bI f_54 0 1000 := by rw [ef_54]; exact b_upd hB63 (by omega) (by omega)
            have sf_54 : (f_54 1).toInt = i_53.toInt := by rw [ef_54]; exact congrArg Int32.toInt (x_upd_same _ 1 _)
            refine lv_aload_n hx hb dX12_works_278 rfl (lv_at hl 7 rfl) ?_
            refine lv_dup hx hb dX12_works_279 rfl ?_
            refine va_get (D := D) (ci := 11) (v := .int (σ.1 73)) (C := RX12) (T := TX12) (N := 85) hx hb hts inX12 hown hK hP 0 mwd_o0 rfl 73 (by decide) fl421 (fun _ h9 => h9) rfl dX12_works_280 ?_
            refine lv_iload_n hx hb dX12_works_283 rfl (lv_at hl 9 rfl) ?_
            refine lv_bipush (v := 7) hx hb dX12_works_284 (by decide) ?_
            refine lv_icmp_ne (tgt := 293) hx hb dX12_works_286 (by decide) (fun c_55 => ?_) (fun c_55 => ?_)
            · refine lv_iconst (v := 2) hx hb dX12_works_293 (by decide) ?_
              refine lv_isub hx hb dX12_works_294 ?_
              refine lv_topi (fun i_56 ei_56 => ?_)
              have vi_56 : i_56.toInt = (σ.1 73).toInt - 2 := by have h9 := x_sub ei_56 (by omega) (by omega); omega
              refine va_put (D := D) (ci := 11) (v := .int i_56) (ty := .int) (C := RX12) (T := TX12) (N := 85) hx hb hts inX12 tyX12 tyX12_ok nmX12 hown hK hP hD hS 0 mwd_o0 rfl 73 (by decide) fl421 (fun _ h9 => h9) rfl (by decide +kernel) rfl rfl (Nat.le_of_ble_eq_true rfl) dX12_works_295 (fun H locs hP hD hS => ?_)
              have hP : va_P D vwCl (mwd y ad zw (sI (tI (sJ (sJ (sI (sI σ 44 0) 44 n_48) 42 j_49) 43 j_50) 63 f_54) 73 i_56)) H := x_trP hP mwd_p0_73
              have hD : va_D A (mwd y ad zw (sI (tI (sJ (sJ (sI (sI σ 44 0) 44 n_48) 42 j_49) 43 j_50) 63 f_54) 73 i_56)) := x_trD hD mwd_p0_73
              refine lv_iload_n hx hb dX12_works_298 rfl (lv_at hl 9 rfl) ?_
              refine lv_iconst (v := 4) hx hb dX12_works_299 (by decide) ?_
              refine lv_icmp_gt (tgt := 340) hx hb dX12_works_300 (by decide) (fun c_57 => ?_) (fun c_57 => ?_)
              · exact absurd c_57 (by decide)
              · refine lv_aload_n hx hb dX12_works_303 rfl (lv_at hl 7 rfl) ?_
                refine lv_iload_n hx hb dX12_works_304 rfl (lv_at hl 8 rfl) ?_
                refine lv_aload_n hx hb dX12_works_305 rfl (lv_at hl 7 rfl) ?_
                refine va_get (D := D) (ci := 11) (v := .long j_49) (C := RX12) (T := TX12) (N := 85) hx hb hts inX12 hown hK hP 0 mwd_o0 rfl 42 (by decide) fl387 (fun _ h9 => h9) rfl dX12_works_306 ?_
                refine lv_aload_n hx hb dX12_works_309 rfl (lv_at hl 7 rfl) ?_
                refine va_get (D := D) (ci := 11) (v := .long j_50) (C := RX12) (T := TX12) (N := 85) hx hb hts inX12 hown hK hP 0 mwd_o0 rfl 43 (by decide) fl391 (fun _ h9 => h9) rfl dX12_works_310 ?_
                refine lv_iload_n hx hb dX12_works_313 rfl (lv_at hl 9 rfl) ?_
                refine lv_iload hx hb dX12_works_314 (lv_at hl 5 rfl) ?_
                refine lv_iload_n hx hb dX12_works_316 rfl (lv_at hl 6 rfl) ?_
                refine x_callvW (va_runV (As := [.int 1, .long j_49, .long j_50, .int 2, .int i_8, .int i_5]) (rest := []) ⟨hx, hb, hml, hown, hts⟩ (q_lays1 l D y H.size ad zw (sI (tI (sJ (sJ (sI (sI σ 44 0) 44 n_48) 42 j_49) 43 j_50) 63 f_54) 73 i_56) j_49 j_50 2 i_8 i_5 (by first | omega | decide) (by first | omega | decide) (by first | omega | decide) (by first | omega | decide) hop (fun _ => by omega) (show 0 ≤ ((σ.2.2.1 62) 1).toInt from by first | omega | decide) (show ((σ.2.2.1 62) 1).toInt < 1760 from by first | omega | decide) hB57 hB58 hB62) (cwV 6 hts g_q_works1_2_1 rfl rfl rfl (by decide +kernel) ⟨Nat.le_of_ble_eq_true rfl, Nat.le_of_ble_eq_true rfl⟩) (x_preV (q := (RX12, TX12, 85)) hK hP hD (ci := 11) (q0 := 0) rfl mwd_o0) rfl rfl hl.1 rfl (lv_room (Nat.le_of_ble_eq_true rfl)) dX12_works_317 ⟨Nat.le_of_ble_eq_true rfl, Nat.le_of_ble_eq_true rfl⟩) hP hD hS hA (fun u H locs hw hP hD hS => ?_)
                obtain ⟨f_58, f_59, f_60, f_61, f_62, f_63⟩ := u
                try dsimp only at hw
                have hP : va_P D vwCl (mwd y ad zw (tI (tI (tI (tI (tJ (tJ (sI (tI (sJ (sJ (sI (sI σ 44 0) 44 n_48) 42 j_49) 43 j_50) 63 f_54) 73 i_56) 57 f_58) 58 f_59) 59 f_60) 60 f_61) 61 f_62) 62 f_63)) H := hP
                have hD : va_D A (mwd y ad zw (tI (tI (tI (tI (tJ (tJ (sI (tI (sJ (sJ (sI (sI σ 44 0) 44 n_48) 42 j_49) 43 j_50) 63 f_54) 73 i_56) 57 f_58) 58 f_59) 59 f_60) 60 f_61) 61 f_62) 62 f_63)) := hD
                have hw : (opc f_60 f_61 f_62 ∧ (f_63 1).toInt = ((σ.2.2.1 62) 1).toInt + 1 ∧ f_63 0 = (σ.2.2.1 62) 0) ∧ bJ f_58 (-1000000000) 1000000000 ∧ bJ f_59 0 1000000000 ∧ bI f_63 0 1760 := hw
                obtain ⟨hw, hg_64, hg_65, hg_66⟩ := hw
                obtain ⟨ho9, hl9, hl8⟩ := hw
                refine lv_aload_n hx hb dX12_works_320 rfl (lv_at hl 7 rfl) ?_
                refine va_get (D := D) (ci := 11) (v := .ref (ad 72)) (C := RX12) (T := TX12) (N := 85) hx hb hts inX12 hown hK hP 0 mwd_o0 rfl 72 (by decide) fl160 (fun _ h9 => h9) rfl dX12_works_321 ?_
                refine lv_aload_n hx hb dX12_works_324 rfl (lv_at hl 7 rfl) ?_
                refine va_get (D := D) (ci := 11) (v := .int i_56) (C := RX12) (T := TX12) (N := 85) hx hb hts inX12 hown hK hP 0 mwd_o0 rfl 73 (by decide) fl421 (fun _ h9 => h9) rfl dX12_works_325 ?_
                refine lv_aload_n hx hb dX12_works_328 rfl (lv_at hl 7 rfl) ?_
                refine va_get (D := D) (ci := 11) (v := .ref (ad 62)) (C := RX12) (T := TX12) (N := 85) hx hb hts inX12 hown hK hP 0 mwd_o0 rfl 62 (by decide) fl139 (fun _ h9 => h9) rfl dX12_works_329 ?_
                refine lv_iload_n hx hb dX12_works_332 rfl (lv_at hl 8 rfl) ?_
                refine va_iald hx hb hK hP 42 2 mwd_a42 rfl (x_in (by decide) (by decide)) dX12_works_333 ?_
                refine lv_topi (fun i_67 ei_67 => ?_)
                have ei_67 : i_67 = f_63 (Int32.toNatClampNeg 1) := ei_67
                have gi_67 : i_67.toInt = (f_63 1).toInt := by rw [ei_67]; rfl
                have bi_67 := b_at hg_66 ei_67
                refine lv_iconst (v := 1) hx hb dX12_works_334 (by decide) ?_
                refine lv_isub hx hb dX12_works_335 ?_
                refine lv_topi (fun i_68 ei_68 => ?_)
                have vi_68 : i_68.toInt = i_67.toInt - 1 := by have h9 := x_sub ei_68 (by omega) (by omega); omega
                refine va_iast hx hb hK hP hD hS 49 2 mwd_a49 rfl (x_in (by omega) (by omega)) dX12_works_336 (fun H locs hP hD hS => ?_)
                obtain ⟨f_69, ef_69⟩ : ∃ z9 : Nat → Int32, z9 = (upd (σ.2.2.1 72) (Int32.toNatClampNeg i_56) i_68) := ⟨_, rfl⟩
                have hP : va_P D vwCl (mwd y ad zw (tI (tI (tI (tI (tI (tJ (tJ (sI (tI (sJ (sJ (sI (sI σ 44 0) 44 n_48) 42 j_49) 43 j_50) 63 f_54) 73 i_56) 57 f_58) 58 f_59) 59 f_60) 60 f_61) 61 f_62) 62 f_63) 72 f_69)) H := by rw [ef_69]; exact x_trP hP mwd_s49
                have hD : va_D A (mwd y ad zw (tI (tI (tI (tI (tI (tJ (tJ (sI (tI (sJ (sJ (sI (sI σ 44 0) 44 n_48) 42 j_49) 43 j_50) 63 f_54) 73 i_56) 57 f_58) 58 f_59) 59 f_60) 60 f_61) 61 f_62) 62 f_63) 72 f_69)) := by rw [ef_69]; exact x_trD hD mwd_s49
                have pf_69 : PT (true :: T) f_69 (f_63 1).toInt := by rw [ef_69]; exact PT_pushN (PT_mono (by omega) hPT.2.2) (x_cl (by omega)) (by omega) (by omega)
                refine lv_goto (tgt := 626) hx hb dX12_works_337 (by decide) ?_
                refine lv_aload_n hx hb dX12_works_626 rfl (lv_at hl 7 rfl) ?_
                refine lv_dup hx hb dX12_works_627 rfl ?_
                refine va_get (D := D) (ci := 11) (v := .int i_56) (C := RX12) (T := TX12) (N := 85) hx hb hts inX12 hown hK hP 0 mwd_o0 rfl 73 (by decide) fl421 (fun _ h9 => h9) rfl dX12_works_628 ?_
                refine lv_iconst (v := 1) hx hb dX12_works_631 (by decide) ?_
                refine lv_iadd hx hb dX12_works_632 ?_
                refine lv_topi (fun i_70 ei_70 => ?_)
                have vi_70 : i_70.toInt = i_56.toInt + 1 := by have h9 := x_add ei_70 (by omega) (by omega); omega
                refine va_put (D := D) (ci := 11) (v := .int i_70) (ty := .int) (C := RX12) (T := TX12) (N := 85) hx hb hts inX12 tyX12 tyX12_ok nmX12 hown hK hP hD hS 0 mwd_o0 rfl 73 (by decide) fl421 (fun _ h9 => h9) rfl (by decide +kernel) rfl rfl (Nat.le_of_ble_eq_true rfl) dX12_works_633 (fun H locs hP hD hS => ?_)
                have hP : va_P D vwCl (mwd y ad zw (sI (tI (tI (tI (tI (tI (tJ (tJ (sI (tI (sJ (sJ (sI (sI σ 44 0) 44 n_48) 42 j_49) 43 j_50) 63 f_54) 73 i_56) 57 f_58) 58 f_59) 59 f_60) 60 f_61) 61 f_62) 62 f_63) 72 f_69) 73 i_70)) H := x_trP hP mwd_p0_73
                have hD : va_D A (mwd y ad zw (sI (tI (tI (tI (tI (tI (tJ (tJ (sI (tI (sJ (sJ (sI (sI σ 44 0) 44 n_48) 42 j_49) 43 j_50) 63 f_54) 73 i_56) 57 f_58) 58 f_59) 59 f_60) 60 f_61) 61 f_62) 62 f_63) 72 f_69) 73 i_70)) := x_trD hD mwd_p0_73
                refine lv_iconst (v := 1) hx hb dX12_works_636 (by decide) ?_
                have hP : va_P D vwCl (mwd y ad zw (tI (tI (tI (tI (tJ (tJ (sJ (sJ (sI (sJ (sJ (sI (tI (tI (tI (tI (sI σ 73 i_70) 72 f_69) 63 f_54) 67 (σ.2.2.1 67)) 66 (σ.2.2.1 66)) 44 n_48) 42 j_49) 43 j_50) 68 (σ.1 68)) 69 (σ.2.1 69)) 70 (σ.2.1 70)) 57 f_58) 58 f_59) 59 f_60) 60 f_61) 61 f_62) 62 f_63)) H := hP
                have hD : va_D A (mwd y ad zw (tI (tI (tI (tI (tJ (tJ (sJ (sJ (sI (sJ (sJ (sI (tI (tI (tI (tI (sI σ 73 i_70) 72 f_69) 63 f_54) 67 (σ.2.2.1 67)) 66 (σ.2.2.1 66)) 44 n_48) 42 j_49) 43 j_50) 68 (σ.1 68)) 69 (σ.2.1 69)) 70 (σ.2.1 70)) 57 f_58) 58 f_59) 59 f_60) 60 f_61) 61 f_62) 62 f_63)) := hD
                exact x_zretW (v := 1) (u := (i_70, f_69, f_54, (σ.2.2.1 67), (σ.2.2.1 66), n_48, j_49, j_50, (σ.1 68), (σ.2.1 69), (σ.2.1 70), f_58, f_59, f_60, f_61, f_62, f_63)) hx hb hr hQ rfl (by (try dsimp only); exact ⟨⟨Or.inr ⟨by omega, pf_69, by omega, rfl⟩, ho9, by omega, by omega, hl8⟩, hg_64, hg_65, hg_66, hvf_54⟩) hP hD hK hS dX12_works_637 hlocks
            · exact absurd c_55 (by decide)
          · have kc_51 : n_48.toInt ≠ 0 := by have h9 := c_51; simp only [ge_iff_le, gt_iff_lt, x_lt, x_le, x_eq, ne_eq, Int32.not_lt, Int32.not_le] at h9; simp only [Int32.reduceToInt] at h9; omega
            refine lv_aload_n hx hb dX12_works_259 rfl (lv_at hl 7 rfl) ?_
            refine va_get (D := D) (ci := 11) (v := .ref (ad 67)) (C := RX12) (T := TX12) (N := 85) hx hb hts inX12 hown hK hP 0 mwd_o0 rfl 67 (by decide) fl154 (fun _ h9 => h9) rfl dX12_works_260 ?_
            refine lv_iload_n hx hb dX12_works_263 rfl (lv_at hl 8 rfl) ?_
            refine lv_iconst (v := 1) hx hb dX12_works_264 (by decide) ?_
            refine va_iast hx hb hK hP hD hS 47 2 mwd_a47 rfl (x_in (by decide) (by decide)) dX12_works_265 (fun H locs hP hD hS => ?_)
            obtain ⟨f_71, ef_71⟩ : ∃ z9 : Nat → Int32, z9 = (upd (σ.2.2.1 67) (Int32.toNatClampNeg 1) 1) := ⟨_, rfl⟩
            have hP : va_P D vwCl (mwd y ad zw (tI (sJ (sJ (sI (sI σ 44 0) 44 n_48) 42 j_49) 43 j_50) 67 f_71)) H := by rw [ef_71]; exact x_trP hP mwd_s47
            have hD : va_D A (mwd y ad zw (tI (sJ (sJ (sI (sI σ 44 0) 44 n_48) 42 j_49) 43 j_50) 67 f_71)) := by rw [ef_71]; exact x_trD hD mwd_s47
            refine lv_iconst (v := 0) hx hb dX12_works_266 (by decide) ?_
            have hP : va_P D vwCl (mwd y ad zw (tI (tI (tI (tI (tJ (tJ (sJ (sJ (sI (sJ (sJ (sI (tI (tI (tI (tI (sI σ 73 (σ.1 73)) 72 (σ.2.2.1 72)) 63 (σ.2.2.1 63)) 67 f_71) 66 (σ.2.2.1 66)) 44 n_48) 42 j_49) 43 j_50) 68 (σ.1 68)) 69 (σ.2.1 69)) 70 (σ.2.1 70)) 57 (σ.2.2.2 57)) 58 (σ.2.2.2 58)) 59 (σ.2.2.1 59)) 60 (σ.2.2.1 60)) 61 (σ.2.2.1 61)) 62 (σ.2.2.1 62))) H := hP
            have hD : va_D A (mwd y ad zw (tI (tI (tI (tI (tJ (tJ (sJ (sJ (sI (sJ (sJ (sI (tI (tI (tI (tI (sI σ 73 (σ.1 73)) 72 (σ.2.2.1 72)) 63 (σ.2.2.1 63)) 67 f_71) 66 (σ.2.2.1 66)) 44 n_48) 42 j_49) 43 j_50) 68 (σ.1 68)) 69 (σ.2.1 69)) 70 (σ.2.1 70)) 57 (σ.2.2.2 57)) 58 (σ.2.2.2 58)) 59 (σ.2.2.1 59)) 60 (σ.2.2.1 60)) 61 (σ.2.2.1 61)) 62 (σ.2.2.1 62))) := hD
            exact x_zretW (v := 0) (u := ((σ.1 73), (σ.2.2.1 72), (σ.2.2.1 63), f_71, (σ.2.2.1 66), n_48, j_49, j_50, (σ.1 68), (σ.2.1 69), (σ.2.1 70), (σ.2.2.2 57), (σ.2.2.2 58), (σ.2.2.1 59), (σ.2.2.1 60), (σ.2.2.1 61), (σ.2.2.1 62))) hx hb hr hQ rfl (by (try dsimp only); exact ⟨⟨Or.inl (by rw [ef_71]; show (upd _ 1 _ 1).toInt ≠ 0; rw [x_upd_same]; decide), hop, by omega, by omega, rfl⟩, hB57, hB58, hB62, hB63⟩) hP hD hK hS dX12_works_267 hlocks
      · exact absurd c_6 (by decide)
    · exact absurd c_3 (by decide)
  · have kc_2 : i_1.toInt = 1000 := by have h9 := c_2; simp only [ge_iff_le, gt_iff_lt, x_lt, x_le, x_eq, ne_eq, Int32.not_lt, Int32.not_le] at h9; simp only [Int32.reduceToInt] at h9; omega
    refine lv_aload_n hx hb dX12_works_12 rfl (lv_at hl 0 rfl) ?_
    refine va_get (D := D) (ci := 11) (v := .ref (ad 67)) (C := RX12) (T := TX12) (N := 85) hx hb hts inX12 hown hK hP 0 mwd_o0 rfl 67 (by decide) fl154 (fun _ h9 => h9) rfl dX12_works_13 ?_
    refine lv_iload_n hx hb dX12_works_16 rfl (lv_at hl 1 rfl) ?_
    refine lv_iconst (v := 2) hx hb dX12_works_17 (by decide) ?_
    refine va_iast hx hb hK hP hD hS 47 2 mwd_a47 rfl (x_in (by decide) (by decide)) dX12_works_18 (fun H locs hP hD hS => ?_)
    obtain ⟨f_72, ef_72⟩ : ∃ z9 : Nat → Int32, z9 = (upd (σ.2.2.1 67) (Int32.toNatClampNeg 1) 2) := ⟨_, rfl⟩
    have hP : va_P D vwCl (mwd y ad zw (tI σ 67 f_72)) H := by rw [ef_72]; exact x_trP hP mwd_s47
    have hD : va_D A (mwd y ad zw (tI σ 67 f_72)) := by rw [ef_72]; exact x_trD hD mwd_s47
    refine lv_iconst (v := 0) hx hb dX12_works_19 (by decide) ?_
    have hP : va_P D vwCl (mwd y ad zw (tI (tI (tI (tI (tJ (tJ (sJ (sJ (sI (sJ (sJ (sI (tI (tI (tI (tI (sI σ 73 (σ.1 73)) 72 (σ.2.2.1 72)) 63 (σ.2.2.1 63)) 67 f_72) 66 (σ.2.2.1 66)) 44 (σ.1 44)) 42 (σ.2.1 42)) 43 (σ.2.1 43)) 68 (σ.1 68)) 69 (σ.2.1 69)) 70 (σ.2.1 70)) 57 (σ.2.2.2 57)) 58 (σ.2.2.2 58)) 59 (σ.2.2.1 59)) 60 (σ.2.2.1 60)) 61 (σ.2.2.1 61)) 62 (σ.2.2.1 62))) H := hP
    have hD : va_D A (mwd y ad zw (tI (tI (tI (tI (tJ (tJ (sJ (sJ (sI (sJ (sJ (sI (tI (tI (tI (tI (sI σ 73 (σ.1 73)) 72 (σ.2.2.1 72)) 63 (σ.2.2.1 63)) 67 f_72) 66 (σ.2.2.1 66)) 44 (σ.1 44)) 42 (σ.2.1 42)) 43 (σ.2.1 43)) 68 (σ.1 68)) 69 (σ.2.1 69)) 70 (σ.2.1 70)) 57 (σ.2.2.2 57)) 58 (σ.2.2.2 58)) 59 (σ.2.2.1 59)) 60 (σ.2.2.1 60)) 61 (σ.2.2.1 61)) 62 (σ.2.2.1 62))) := hD
    exact x_zretW (v := 0) (u := ((σ.1 73), (σ.2.2.1 72), (σ.2.2.1 63), f_72, (σ.2.2.1 66), (σ.1 44), (σ.2.1 42), (σ.2.1 43), (σ.1 68), (σ.2.1 69), (σ.2.1 70), (σ.2.2.2 57), (σ.2.2.2 58), (σ.2.2.1 59), (σ.2.2.1 60), (σ.2.2.1 61), (σ.2.2.1 62))) hx hb hr hQ rfl (by (try dsimp only); exact ⟨⟨Or.inl (by rw [ef_72]; show (upd _ 1 _ 1).toInt ≠ 0; rw [x_upd_same]; decide), hop, by omega, by omega, rfl⟩, hB57, hB58, hB62, hB63⟩) hP hD hK hS dX12_works_20 hlocks

def v_q_works1_3 : List Cond := .code yX12_works cX12_works 15 (some .boolean) :: ([.fieldLink RX12 142 "SlopeRunnerModel" "steps" "[I", .fieldLink RX12 160 "SlopeRunnerModel" "pile" "[I", .fieldLink RX12 421 "SlopeRunnerModel" "piled" "I", .fieldLink RX12 124 "SlopeRunnerModel" "valueAbove" "[J", .fieldLink RX12 127 "SlopeRunnerModel" "valueBelow" "[J", .fieldLink RX12 384 "SlopeRunnerModel" "isStuck" "Z", .fieldLink RX12 387 "SlopeRunnerModel" "up" "J", .fieldLink RX12 391 "SlopeRunnerModel" "down" "J", .fieldLink RX12 139 "SlopeRunnerModel" "laid" "[I", .fieldLink RX12 154 "SlopeRunnerModel" "state" "[I"] ++ ((wsV RX12 427 RX12 yX12_multiplies v_q_multiplies) ++ ((wsV RX12 433 RX12 yX12_lays v_q_lays1) ++ wsX120)))
theorem g_q_works1_3_0 : GoodIn v_q_works1_3 (wsV RX12 427 RX12 yX12_multiplies v_q_multiplies) := goodIn_sub (fun w h => List.mem_cons_of_mem _ (List.mem_append_right _ (List.mem_append_left _ h))) (by decide +kernel)
theorem g_q_works1_3_1 : GoodIn v_q_works1_3 (wsV RX12 433 RX12 yX12_lays v_q_lays1) := goodIn_sub (fun w h => List.mem_cons_of_mem _ (List.mem_append_right _ (List.mem_append_right _ (List.mem_append_left _ h)))) (by decide +kernel)
set_option maxHeartbeats 4000000 in
set_option maxRecDepth 100000 in
theorem q_works1_3 (l : Launch) (D : va_G) (y : Nat → ClassId) (sz : Nat) (ad : Nat → Nat) (zw : Nat → Nat → Int32) (σ : OS) (T : List Bool) (hp : (σ.1 73).toInt = (T.length : Int) + 2) (hT : T.length ≤ 700) (hPT : PT (true :: true :: T) (σ.2.2.1 72) (σ.2.2.1 62 1).toInt) (hop : opc (σ.2.2.1 59) (σ.2.2.1 60) (σ.2.2.1 61)) (hl0 : 0 ≤ (σ.2.2.1 62 1).toInt) (hl1 : (σ.2.2.1 62 1).toInt < 1760) (hB57 : bJ (σ.2.2.2 57) (-1000000000) 1000000000) (hB58 : bJ (σ.2.2.2 58) 0 1000000000) (hB62 : bI (σ.2.2.1 62) 0 1760) (hB63 : bI (σ.2.2.1 63) 0 1000) : Met l yX12_works v_q_works1_3 ({ frames := 4, cells := 0, slots := 0, locals := 108 } : Room) (va_Pc [.ref (ad 1), .int 1, .int 3] (xPre D (xT y) (mwd y ad zw σ) sz)) (va_Qi (fun (r : Int32) (u : Int32 × (Nat → Int32) × (Nat → Int32) × (Nat → Int32) × (Nat → Int32) × Int32 × Int64 × Int64 × Int32 × Int64 × Int64 × (Nat → Int64) × (Nat → Int64) × (Nat → Int32) × (Nat → Int32) × (Nat → Int32) × (Nat → Int32)) => (((u.2.2.2.1 1).toInt ≠ 0 ∨ (u.1.toInt = (T.length : Int) + 1 ∧ PT (true :: T) u.2.1 (u.2.2.2.2.2.2.2.2.2.2.2.2.2.2.2.2 1).toInt ∧ (u.2.2.1 1).toInt = (σ.2.2.1 63 1).toInt + 1 ∧ u.2.2.2.1 = σ.2.2.1 67)) ∧ opc u.2.2.2.2.2.2.2.2.2.2.2.2.2.1 u.2.2.2.2.2.2.2.2.2.2.2.2.2.2.1 u.2.2.2.2.2.2.2.2.2.2.2.2.2.2.2.1 ∧ (σ.2.2.1 62 1).toInt ≤ (u.2.2.2.2.2.2.2.2.2.2.2.2.2.2.2.2 1).toInt ∧ (u.2.2.2.2.2.2.2.2.2.2.2.2.2.2.2.2 1).toInt - (σ.2.2.1 62 1).toInt ≤ (u.2.2.1 1).toInt - (σ.2.2.1 63 1).toInt ∧ u.2.2.2.2.2.2.2.2.2.2.2.2.2.2.2.2 0 = σ.2.2.1 62 0) ∧ bJ u.2.2.2.2.2.2.2.2.2.2.2.1 (-1000000000) 1000000000 ∧ bJ u.2.2.2.2.2.2.2.2.2.2.2.2.1 0 1000000000 ∧ bI u.2.2.2.2.2.2.2.2.2.2.2.2.2.2.2.2 0 1760 ∧ bI u.2.2.1 0 1000) (fun (u : Int32 × (Nat → Int32) × (Nat → Int32) × (Nat → Int32) × (Nat → Int32) × Int32 × Int64 × Int64 × Int32 × Int64 × Int64 × (Nat → Int64) × (Nat → Int64) × (Nat → Int32) × (Nat → Int32) × (Nat → Int32) × (Nat → Int32)) => xB D (xT y) (va_A (mwd y ad zw σ) sz) (mwd y ad zw (tI (tI (tI (tI (tJ (tJ (sJ (sJ (sI (sJ (sJ (sI (tI (tI (tI (tI (sI σ 73 u.1) 72 u.2.1) 63 u.2.2.1) 67 u.2.2.2.1) 66 u.2.2.2.2.1) 44 u.2.2.2.2.2.1) 42 u.2.2.2.2.2.2.1) 43 u.2.2.2.2.2.2.2.1) 68 u.2.2.2.2.2.2.2.2.1) 69 u.2.2.2.2.2.2.2.2.2.1) 70 u.2.2.2.2.2.2.2.2.2.2.1) 57 u.2.2.2.2.2.2.2.2.2.2.2.1) 58 u.2.2.2.2.2.2.2.2.2.2.2.2.1) 59 u.2.2.2.2.2.2.2.2.2.2.2.2.2.1) 60 u.2.2.2.2.2.2.2.2.2.2.2.2.2.2.1) 61 u.2.2.2.2.2.2.2.2.2.2.2.2.2.2.2.1) 62 u.2.2.2.2.2.2.2.2.2.2.2.2.2.2.2.2))) (va_A (mwd y ad zw σ) sz)) 0 0 (va_A (mwd y ad zw σ) sz) := by
  refine x_meti (cc := cX12_works) (maxL := 15) (by decide) rfl (Nat.le_of_ble_eq_true rfl) ?_
  intro p e s m below meth c A H locs Q hx hb hml hown hts hr hlocks hmn hA hP hK hD hS ls hl hQ
  have hl : lv_has ls 15 [(0, .ref (ad 1)), (1, .int 1), (2, .int 3)] := hl
  have fl142 := hts (.fieldLink RX12 142 "SlopeRunnerModel" "steps" "[I") (List.mem_of_getElem? (i := 1) rfl)
  have inX12 : ∀ w ∈ wsX120, w ∈ v_q_works1_3 := (fun w h => List.mem_cons_of_mem _ (List.mem_append_right _ (List.mem_append_right _ (List.mem_append_right _ h))))
  have kk_1000 : (1000 : Int32).toInt = 1000 := rfl
  have fl160 := hts (.fieldLink RX12 160 "SlopeRunnerModel" "pile" "[I") (List.mem_of_getElem? (i := 2) rfl)
  have fl421 := hts (.fieldLink RX12 421 "SlopeRunnerModel" "piled" "I") (List.mem_of_getElem? (i := 3) rfl)
  have kk_1 : (1 : Int32).toInt = 1 := rfl
  have kk_2 : (2 : Int32).toInt = 2 := rfl
  have fl124 := hts (.fieldLink RX12 124 "SlopeRunnerModel" "valueAbove" "[J") (List.mem_of_getElem? (i := 4) rfl)
  have kk_1760 : (1760 : Int32).toInt = 1760 := rfl
  have fl127 := hts (.fieldLink RX12 127 "SlopeRunnerModel" "valueBelow" "[J") (List.mem_of_getElem? (i := 5) rfl)
  have fl384 := hts (.fieldLink RX12 384 "SlopeRunnerModel" "isStuck" "Z") (List.mem_of_getElem? (i := 6) rfl)
  have kk_0 : (0 : Int32).toInt = 0 := rfl
  have fl387 := hts (.fieldLink RX12 387 "SlopeRunnerModel" "up" "J") (List.mem_of_getElem? (i := 7) rfl)
  have fl391 := hts (.fieldLink RX12 391 "SlopeRunnerModel" "down" "J") (List.mem_of_getElem? (i := 8) rfl)
  have kk_3 : (3 : Int32).toInt = 3 := rfl
  have fl139 := hts (.fieldLink RX12 139 "SlopeRunnerModel" "laid" "[I") (List.mem_of_getElem? (i := 9) rfl)
  have fl154 := hts (.fieldLink RX12 154 "SlopeRunnerModel" "state" "[I") (List.mem_of_getElem? (i := 10) rfl)
  refine lv_aload_n hx hb dX12_works_0 rfl (lv_at hl 0 rfl) ?_
  refine va_get (D := D) (ci := 11) (v := .ref (ad 63)) (C := RX12) (T := TX12) (N := 85) hx hb hts inX12 hown hK hP 0 mwd_o0 rfl 63 (by decide) fl142 (fun _ h9 => h9) rfl dX12_works_1 ?_
  refine lv_iload_n hx hb dX12_works_4 rfl (lv_at hl 1 rfl) ?_
  refine va_iald hx hb hK hP 43 2 mwd_a43 rfl (x_in (by decide) (by decide)) dX12_works_5 ?_
  refine lv_topi (fun i_1 ei_1 => ?_)
  have ei_1 : i_1 = (σ.2.2.1 63) (Int32.toNatClampNeg 1) := ei_1
  have gi_1 : i_1.toInt = (σ.2.2.1 63 1).toInt := by rw [ei_1]; rfl
  have bi_1 := b_at hB63 ei_1
  refine lv_sipush (v := 1000) hx hb dX12_works_6 (by decide) ?_
  refine lv_icmp_ne (tgt := 21) hx hb dX12_works_9 (by decide) (fun c_2 => ?_) (fun c_2 => ?_)
  · have kc_2 : i_1.toInt ≠ 1000 := by have h9 := c_2; simp only [ge_iff_le, gt_iff_lt, x_lt, x_le, x_eq, ne_eq, Int32.not_lt, Int32.not_le] at h9; simp only [Int32.reduceToInt] at h9; omega
    refine lv_iload_n hx hb dX12_works_21 rfl (lv_at hl 2 rfl) ?_
    refine lv_bipush (v := 7) hx hb dX12_works_22 (by decide) ?_
    refine lv_icmp_ne (tgt := 41) hx hb dX12_works_24 (by decide) (fun c_3 => ?_) (fun c_3 => ?_)
    · refine lv_aload_n hx hb dX12_works_41 rfl (lv_at hl 0 rfl) ?_
      refine va_get (D := D) (ci := 11) (v := .ref (ad 72)) (C := RX12) (T := TX12) (N := 85) hx hb hts inX12 hown hK hP 0 mwd_o0 rfl 72 (by decide) fl160 (fun _ h9 => h9) rfl dX12_works_42 ?_
      refine lv_aload_n hx hb dX12_works_45 rfl (lv_at hl 0 rfl) ?_
      refine va_get (D := D) (ci := 11) (v := .int (σ.1 73)) (C := RX12) (T := TX12) (N := 85) hx hb hts inX12 hown hK hP 0 mwd_o0 rfl 73 (by decide) fl421 (fun _ h9 => h9) rfl dX12_works_46 ?_
      refine lv_iconst (v := 1) hx hb dX12_works_49 (by decide) ?_
      refine lv_isub hx hb dX12_works_50 ?_
      refine lv_topi (fun i_4 ei_4 => ?_)
      have vi_4 : i_4.toInt = (σ.1 73).toInt - 1 := by have h9 := x_sub ei_4 (by omega) (by omega); omega
      refine va_iald hx hb hK hP 49 2 mwd_a49 rfl (x_in (by omega) (by omega)) dX12_works_51 ?_
      refine lv_topi (fun i_5 ei_5 => ?_)
      have ei_5 : i_5 = (σ.2.2.1 72) (Int32.toNatClampNeg i_4) := ei_5
      have gi_5 := PT_N hPT ei_5 (x_cl (by simp only [List.length_cons]; omega))
      refine lv_istore_n (lv' := [(3, .int i_5), (0, .ref (ad 1)), (1, .int 1), (2, .int 3)]) hx hb dX12_works_52 rfl hl (by decide) rfl (fun ls hl => ?_)
      refine lv_iload_n hx hb dX12_works_53 rfl (lv_at hl 3 rfl) ?_
      refine lv_bipush (v := 7) hx hb dX12_works_54 (by decide) ?_
      refine lv_icmp_ne (tgt := 63) hx hb dX12_works_56 (by decide) (fun c_6 => ?_) (fun c_6 => ?_)
      · refine lv_aload_n hx hb dX12_works_63 rfl (lv_at hl 1 rfl) ?_
        refine va_get (D := D) (ci := 11) (v := .ref (ad 72)) (C := RX12) (T := TX12) (N := 85) hx hb hts inX12 hown hK hP 0 mwd_o0 rfl 72 (by decide) fl160 (fun _ h9 => h9) rfl dX12_works_64 ?_
        refine lv_aload_n hx hb dX12_works_67 rfl (lv_at hl 1 rfl) ?_
        refine va_get (D := D) (ci := 11) (v := .int (σ.1 73)) (C := RX12) (T := TX12) (N := 85) hx hb hts inX12 hown hK hP 0 mwd_o0 rfl 73 (by decide) fl421 (fun _ h9 => h9) rfl dX12_works_68 ?_
        refine lv_iconst (v := 2) hx hb dX12_works_71 (by decide) ?_
        refine lv_isub hx hb dX12_works_72 ?_
        refine lv_topi (fun i_7 ei_7 => ?_)
        have vi_7 : i_7.toInt = (σ.1 73).toInt - 2 := by have h9 := x_sub ei_7 (by omega) (by omega); omega
        refine va_iald hx hb hK hP 49 2 mwd_a49 rfl (x_in (by omega) (by omega)) dX12_works_73 ?_
        refine lv_topi (fun i_8 ei_8 => ?_)
        have ei_8 : i_8 = (σ.2.2.1 72) (Int32.toNatClampNeg i_7) := ei_8
        have gi_8 := PT_N hPT.2 ei_8 (x_cl (by omega))
        refine lv_istore (lv' := [(4, .int i_8), (3, .int i_5), (0, .ref (ad 1)), (1, .int 1), (2, .int 3)]) hx hb dX12_works_74 hl (by decide) rfl (fun ls hl => ?_)
        refine lv_aload_n hx hb dX12_works_76 rfl (lv_at hl 2 rfl) ?_
        refine va_get (D := D) (ci := 11) (v := .ref (ad 57)) (C := RX12) (T := TX12) (N := 85) hx hb hts inX12 hown hK hP 0 mwd_o0 rfl 57 (by decide) fl124 (fun _ h9 => h9) rfl dX12_works_77 ?_
        refine lv_sipush (v := 1760) hx hb dX12_works_80 (by decide) ?_
        refine lv_iload_n hx hb dX12_works_83 rfl (lv_at hl 3 rfl) ?_
        refine lv_imul hx hb dX12_works_84 ?_
        refine lv_topi (fun i_9 ei_9 => ?_)
        obtain rfl : i_9 = 1760 := ei_9.trans (by decide)
        refine lv_iload hx hb dX12_works_85 (lv_at hl 0 rfl) ?_
        refine lv_iadd hx hb dX12_works_87 ?_
        refine lv_topi (fun i_10 ei_10 => ?_)
        have vi_10 : i_10.toInt = 1760 + i_8.toInt := by have h9 := x_add ei_10 (by omega) (by omega); omega
        refine va_lald hx hb hK hP 37 3 mwd_a37 rfl (x_in (by omega) (by omega)) dX12_works_88 ?_
        refine lv_topl (fun j_11 ej_11 => ?_)
        have ej_11 : j_11 = (σ.2.2.2 57) (Int32.toNatClampNeg i_10) := ej_11
        have bj_11 := b_atJ hB57 ej_11
        refine lv_lstore (lv' := [(5, .long j_11), (4, .int i_8), (3, .int i_5), (0, .ref (ad 1)), (1, .int 1), (2, .int 3)]) hx hb dX12_works_89 hl (by decide) rfl (fun ls hl => ?_)
        refine lv_aload_n hx hb dX12_works_91 rfl (lv_at hl 3 rfl) ?_
        refine va_get (D := D) (ci := 11) (v := .ref (ad 58)) (C := RX12) (T := TX12) (N := 85) hx hb hts inX12 hown hK hP 0 mwd_o0 rfl 58 (by decide) fl127 (fun _ h9 => h9) rfl dX12_works_92 ?_
        refine lv_sipush (v := 1760) hx hb dX12_works_95 (by decide) ?_
        refine lv_iload_n hx hb dX12_works_98 rfl (lv_at hl 4 rfl) ?_
        refine lv_imul hx hb dX12_works_99 ?_
        refine lv_topi (fun i_12 ei_12 => ?_)
        obtain rfl : i_12 = 1760 := ei_12.trans (by decide)
        refine lv_iload hx hb dX12_works_100 (lv_at hl 1 rfl) ?_
        refine lv_iadd hx hb dX12_works_102 ?_
        refine lv_topi (fun i_13 ei_13 => ?_)
        have vi_13 : i_13.toInt = 1760 + i_8.toInt := by have h9 := x_add ei_13 (by omega) (by omega); omega
        refine va_lald hx hb hK hP 38 3 mwd_a38 rfl (x_in (by omega) (by omega)) dX12_works_103 ?_
        refine lv_topl (fun j_14 ej_14 => ?_)
        have ej_14 : j_14 = (σ.2.2.2 58) (Int32.toNatClampNeg i_13) := ej_14
        have bj_14 := b_atJ hB58 ej_14
        refine lv_lstore (lv' := [(7, .long j_14), (5, .long j_11), (4, .int i_8), (3, .int i_5), (0, .ref (ad 1)), (1, .int 1), (2, .int 3)]) hx hb dX12_works_104 hl (by decide) rfl (fun ls hl => ?_)
        refine lv_aload_n hx hb dX12_works_106 rfl (lv_at hl 4 rfl) ?_
        refine va_get (D := D) (ci := 11) (v := .ref (ad 57)) (C := RX12) (T := TX12) (N := 85) hx hb hts inX12 hown hK hP 0 mwd_o0 rfl 57 (by decide) fl124 (fun _ h9 => h9) rfl dX12_works_107 ?_
        refine lv_sipush (v := 1760) hx hb dX12_works_110 (by decide) ?_
        refine lv_iload_n hx hb dX12_works_113 rfl (lv_at hl 5 rfl) ?_
        refine lv_imul hx hb dX12_works_114 ?_
        refine lv_topi (fun i_15 ei_15 => ?_)
        obtain rfl : i_15 = 1760 := ei_15.trans (by decide)
        refine lv_iload_n hx hb dX12_works_115 rfl (lv_at hl 3 rfl) ?_
        refine lv_iadd hx hb dX12_works_116 ?_
        refine lv_topi (fun i_16 ei_16 => ?_)
        have vi_16 : i_16.toInt = 1760 + i_5.toInt := by have h9 := x_add ei_16 (by omega) (by omega); omega
        refine va_lald hx hb hK hP 37 3 mwd_a37 rfl (x_in (by omega) (by omega)) dX12_works_117 ?_
        refine lv_topl (fun j_17 ej_17 => ?_)
        have ej_17 : j_17 = (σ.2.2.2 57) (Int32.toNatClampNeg i_16) := ej_17
        have bj_17 := b_atJ hB57 ej_17
        refine lv_lstore (lv' := [(9, .long j_17), (7, .long j_14), (5, .long j_11), (4, .int i_8), (3, .int i_5), (0, .ref (ad 1)), (1, .int 1), (2, .int 3)]) hx hb dX12_works_118 hl (by decide) rfl (fun ls hl => ?_)
        refine lv_aload_n hx hb dX12_works_120 rfl (lv_at hl 5 rfl) ?_
        refine va_get (D := D) (ci := 11) (v := .ref (ad 58)) (C := RX12) (T := TX12) (N := 85) hx hb hts inX12 hown hK hP 0 mwd_o0 rfl 58 (by decide) fl127 (fun _ h9 => h9) rfl dX12_works_121 ?_
        refine lv_sipush (v := 1760) hx hb dX12_works_124 (by decide) ?_
        refine lv_iload_n hx hb dX12_works_127 rfl (lv_at hl 6 rfl) ?_
        refine lv_imul hx hb dX12_works_128 ?_
        refine lv_topi (fun i_18 ei_18 => ?_)
        obtain rfl : i_18 = 1760 := ei_18.trans (by decide)
        refine lv_iload_n hx hb dX12_works_129 rfl (lv_at hl 4 rfl) ?_
        refine lv_iadd hx hb dX12_works_130 ?_
        refine lv_topi (fun i_19 ei_19 => ?_)
        have vi_19 : i_19.toInt = 1760 + i_5.toInt := by have h9 := x_add ei_19 (by omega) (by omega); omega
        refine va_lald hx hb hK hP 38 3 mwd_a38 rfl (x_in (by omega) (by omega)) dX12_works_131 ?_
        refine lv_topl (fun j_20 ej_20 => ?_)
        have ej_20 : j_20 = (σ.2.2.2 58) (Int32.toNatClampNeg i_19) := ej_20
        have bj_20 := b_atJ hB58 ej_20
        refine lv_lstore (lv' := [(11, .long j_20), (9, .long j_17), (7, .long j_14), (5, .long j_11), (4, .int i_8), (3, .int i_5), (0, .ref (ad 1)), (1, .int 1), (2, .int 3)]) hx hb dX12_works_132 hl (by decide) rfl (fun ls hl => ?_)
        refine lv_lload hx hb dX12_works_134 (lv_at hl 3 rfl) ?_
        refine lv_lload hx hb dX12_works_136 (lv_at hl 0 rfl) ?_
        refine lv_lmul hx hb dX12_works_138 ?_
        refine lv_topl (fun j_21 ej_21 => ?_)
        have vj_21 := x_mulB ej_21 (by omega) (by omega) (by omega) (by omega)
        refine lv_lload hx hb dX12_works_139 (lv_at hl 1 rfl) ?_
        refine lv_lload hx hb dX12_works_141 (lv_at hl 2 rfl) ?_
        refine lv_lmul hx hb dX12_works_143 ?_
        refine lv_topl (fun j_22 ej_22 => ?_)
        have vj_22 := x_mulB ej_22 (by omega) (by omega) (by omega) (by omega)
        refine W.lcmp hx hb dX12_works_144 ?_
        refine lv_if_ge (tgt := 152) hx hb dX12_works_145 (by decide) (fun c_23 => ?_) (fun c_23 => ?_)
        · have kc_23 : j_21.toInt ≥ j_22.toInt := by have h9 := x_tri j_21 j_22; (try simp only [Int64.reduceToInt] at h9); rcases h9 with ⟨g1, g2⟩ | ⟨g1, g2⟩ | ⟨g1, g2⟩ <;> first | omega | (exfalso; rw [g1] at c_23; revert c_23; decide)
          refine lv_iconst (v := 0) hx hb dX12_works_152 (by decide) ?_
          refine lv_istore (lv' := [(13, .int 0), (11, .long j_20), (9, .long j_17), (7, .long j_14), (5, .long j_11), (4, .int i_8), (3, .int i_5), (0, .ref (ad 1)), (1, .int 1), (2, .int 3)]) hx hb dX12_works_153 hl (by decide) rfl (fun ls hl => ?_)
          refine lv_aload_n hx hb dX12_works_155 rfl (lv_at hl 7 rfl) ?_
          refine lv_iconst (v := 0) hx hb dX12_works_156 (by decide) ?_
          refine va_put (D := D) (ci := 11) (v := .int 0) (ty := .boolean) (C := RX12) (T := TX12) (N := 85) hx hb hts inX12 tyX12 tyX12_ok nmX12 hown hK hP hD hS 0 mwd_o0 rfl 44 (by decide) fl384 (fun _ h9 => h9) rfl (by decide +kernel) rfl rfl (Nat.le_of_ble_eq_true rfl) dX12_works_157 (fun H locs hP hD hS => ?_)
          have hP : va_P D vwCl (mwd y ad zw (sI σ 44 0)) H := x_trP hP mwd_p0_44
          have hD : va_D A (mwd y ad zw (sI σ 44 0)) := x_trD hD mwd_p0_44
          refine lv_iload_n hx hb dX12_works_160 rfl (lv_at hl 9 rfl) ?_
          refine lv_tableIn (tgt := 222) hx hb dX12_works_161 (by decide) (by decide) rfl (by decide) ?_
          refine lv_aload_n hx hb dX12_works_222 rfl (lv_at hl 7 rfl) ?_
          refine lv_lload hx hb dX12_works_223 (lv_at hl 4 rfl) ?_
          refine lv_lload hx hb dX12_works_225 (lv_at hl 3 rfl) ?_
          refine lv_lload hx hb dX12_works_227 (lv_at hl 2 rfl) ?_
          refine lv_lload hx hb dX12_works_229 (lv_at hl 1 rfl) ?_
          refine x_callvW (va_runV (As := [.long j_11, .long j_14, .long j_17, .long j_20]) (rest := []) ⟨hx, hb, hml, hown, hts⟩ (q_multiplies l D y H.size ad zw (sI σ 44 0) j_11 j_14 j_17 j_20 (by first | omega | decide) (by first | omega | decide) (by first | omega | decide) (by first | omega | decide) (by first | omega | decide) (by first | omega | decide) (by first | omega | decide) (by first | omega | decide)) (cwV 4 hts g_q_works1_3_0 rfl rfl rfl (by decide +kernel) ⟨Nat.le_of_ble_eq_true rfl, Nat.le_of_ble_eq_true rfl⟩) (x_preV (q := (RX12, TX12, 85)) hK hP hD (ci := 11) (q0 := 0) rfl mwd_o0) rfl rfl hl.1 rfl (lv_room (Nat.le_of_ble_eq_true rfl)) dX12_works_231 ⟨Nat.le_of_ble_eq_true rfl, Nat.le_of_ble_eq_true rfl⟩) hP hD hS hA (fun u H locs hw hP hD hS => ?_)
          obtain ⟨n_24, j_25, j_26⟩ := u
          try dsimp only at hw
          have hP : va_P D vwCl (mwd y ad zw (sJ (sJ (sI (sI σ 44 0) 44 n_24) 42 j_25) 43 j_26)) H := hP
          have hD : va_D A (mwd y ad zw (sJ (sJ (sI (sI σ 44 0) 44 n_24) 42 j_25) 43 j_26)) := hD
          have hw : -1000000000 ≤ j_25.toInt ∧ j_25.toInt ≤ 1000000000 ∧ 0 ≤ j_26.toInt ∧ j_26.toInt ≤ 1000000000 := hw
          refine lv_goto (tgt := 252) hx hb dX12_works_234 (by decide) ?_
          refine lv_aload_n hx hb dX12_works_252 rfl (lv_at hl 7 rfl) ?_
          refine va_get (D := D) (ci := 11) (v := .int n_24) (C := RX12) (T := TX12) (N := 85) hx hb hts inX12 hown hK hP 0 mwd_o0 rfl 44 (by decide) fl384 (fun _ h9 => h9) rfl dX12_works_253 ?_
          refine lv_if_eq (tgt := 268) hx hb dX12_works_256 (by decide) (fun c_27 => ?_) (fun c_27 => ?_)
          · have kc_27 : n_24.toInt = 0 := by have h9 := c_27; simp only [ge_iff_le, gt_iff_lt, x_lt, x_le, x_eq, ne_eq, Int32.not_lt, Int32.not_le] at h9; simp only [Int32.reduceToInt] at h9; omega
            refine lv_aload_n hx hb dX12_works_268 rfl (lv_at hl 7 rfl) ?_
            refine va_get (D := D) (ci := 11) (v := .ref (ad 63)) (C := RX12) (T := TX12) (N := 85) hx hb hts inX12 hown hK hP 0 mwd_o0 rfl 63 (by decide) fl142 (fun _ h9 => h9) rfl dX12_works_269 ?_
            refine lv_iload_n hx hb dX12_works_272 rfl (lv_at hl 8 rfl) ?_
            refine lv_dup2_11 hx hb dX12_works_273 rfl rfl ?_
            refine va_iald hx hb hK hP 43 2 mwd_a43 rfl (x_in (by decide) (by decide)) dX12_works_274 ?_
            refine lv_topi (fun i_28 ei_28 => ?_)
            have ei_28 : i_28 = (σ.2.2.1 63) (Int32.toNatClampNeg 1) := ei_28
            have gi_28 : i_28.toInt = (σ.2.2.1 63 1).toInt := by rw [ei_28]; rfl
            have bi_28 := b_at hB63 ei_28
            refine lv_iconst (v := 1) hx hb dX12_works_275 (by decide) ?_
            refine lv_iadd hx hb dX12_works_276 ?_
            refine lv_topi (fun i_29 ei_29 => ?_)
            have vi_29 : i_29.toInt = i_28.toInt + 1 := by have h9 := x_add ei_29 (by omega) (by omega); omega
            refine va_iast hx hb hK hP hD hS 43 2 mwd_a43 rfl (x_in (by decide) (by decide)) dX12_works_277 (fun H locs hP hD hS => ?_)
            obtain ⟨f_30, ef_30⟩ : ∃ z9 : Nat → Int32, z9 = (upd (σ.2.2.1 63) (Int32.toNatClampNeg 1) i_29) := ⟨_, rfl⟩
            have hP : va_P D vwCl (mwd y ad zw (tI (sJ (sJ (sI (sI σ 44 0) 44 n_24) 42 j_25) 43 j_26) 63 f_30)) H := by rw [ef_30]; exact x_trP hP mwd_s43
            have hD : va_D A (mwd y ad zw (tI (sJ (sJ (sI (sI σ 44 0) 44 n_24) 42 j_25) 43 j_26) 63 f_30)) := by rw [ef_30]; exact x_trD hD mwd_s43
            have hvf_30 : bI f_30 0 1000 := by rw [ef_30]; exact b_upd hB63 (by omega) (by omega)
            have sf_30 : (f_30 1).toInt = i_29.toInt := by rw [ef_30]; exact congrArg Int32.toInt (x_upd_same _ 1 _)
            refine lv_aload_n hx hb dX12_works_278 rfl (lv_at hl 7 rfl) ?_
            refine lv_dup hx hb dX12_works_279 rfl ?_
            refine va_get (D := D) (ci := 11) (v := .int (σ.1 73)) (C := RX12) (T := TX12) (N := 85) hx hb hts inX12 hown hK hP 0 mwd_o0 rfl 73 (by decide) fl421 (fun _ h9 => h9) rfl dX12_works_280 ?_
            refine lv_iload_n hx hb dX12_works_283 rfl (lv_at hl 9 rfl) ?_
            refine lv_bipush (v := 7) hx hb dX12_works_284 (by decide) ?_
            refine lv_icmp_ne (tgt := 293) hx hb dX12_works_286 (by decide) (fun c_31 => ?_) (fun c_31 => ?_)
            · refine lv_iconst (v := 2) hx hb dX12_works_293 (by decide) ?_
              refine lv_isub hx hb dX12_works_294 ?_
              refine lv_topi (fun i_32 ei_32 => ?_)
              have vi_32 : i_32.toInt = (σ.1 73).toInt - 2 := by have h9 := x_sub ei_32 (by omega) (by omega); omega
              refine va_put (D := D) (ci := 11) (v := .int i_32) (ty := .int) (C := RX12) (T := TX12) (N := 85) hx hb hts inX12 tyX12 tyX12_ok nmX12 hown hK hP hD hS 0 mwd_o0 rfl 73 (by decide) fl421 (fun _ h9 => h9) rfl (by decide +kernel) rfl rfl (Nat.le_of_ble_eq_true rfl) dX12_works_295 (fun H locs hP hD hS => ?_)
              have hP : va_P D vwCl (mwd y ad zw (sI (tI (sJ (sJ (sI (sI σ 44 0) 44 n_24) 42 j_25) 43 j_26) 63 f_30) 73 i_32)) H := x_trP hP mwd_p0_73
              have hD : va_D A (mwd y ad zw (sI (tI (sJ (sJ (sI (sI σ 44 0) 44 n_24) 42 j_25) 43 j_26) 63 f_30) 73 i_32)) := x_trD hD mwd_p0_73
              refine lv_iload_n hx hb dX12_works_298 rfl (lv_at hl 9 rfl) ?_
              refine lv_iconst (v := 4) hx hb dX12_works_299 (by decide) ?_
              refine lv_icmp_gt (tgt := 340) hx hb dX12_works_300 (by decide) (fun c_33 => ?_) (fun c_33 => ?_)
              · exact absurd c_33 (by decide)
              · refine lv_aload_n hx hb dX12_works_303 rfl (lv_at hl 7 rfl) ?_
                refine lv_iload_n hx hb dX12_works_304 rfl (lv_at hl 8 rfl) ?_
                refine lv_aload_n hx hb dX12_works_305 rfl (lv_at hl 7 rfl) ?_
                refine va_get (D := D) (ci := 11) (v := .long j_25) (C := RX12) (T := TX12) (N := 85) hx hb hts inX12 hown hK hP 0 mwd_o0 rfl 42 (by decide) fl387 (fun _ h9 => h9) rfl dX12_works_306 ?_
                refine lv_aload_n hx hb dX12_works_309 rfl (lv_at hl 7 rfl) ?_
                refine va_get (D := D) (ci := 11) (v := .long j_26) (C := RX12) (T := TX12) (N := 85) hx hb hts inX12 hown hK hP 0 mwd_o0 rfl 43 (by decide) fl391 (fun _ h9 => h9) rfl dX12_works_310 ?_
                refine lv_iload_n hx hb dX12_works_313 rfl (lv_at hl 9 rfl) ?_
                refine lv_iload hx hb dX12_works_314 (lv_at hl 5 rfl) ?_
                refine lv_iload_n hx hb dX12_works_316 rfl (lv_at hl 6 rfl) ?_
                refine x_callvW (va_runV (As := [.int 1, .long j_25, .long j_26, .int 3, .int i_8, .int i_5]) (rest := []) ⟨hx, hb, hml, hown, hts⟩ (q_lays1 l D y H.size ad zw (sI (tI (sJ (sJ (sI (sI σ 44 0) 44 n_24) 42 j_25) 43 j_26) 63 f_30) 73 i_32) j_25 j_26 3 i_8 i_5 (by first | omega | decide) (by first | omega | decide) (by first | omega | decide) (by first | omega | decide) hop (fun _ => by omega) (show 0 ≤ ((σ.2.2.1 62) 1).toInt from by first | omega | decide) (show ((σ.2.2.1 62) 1).toInt < 1760 from by first | omega | decide) hB57 hB58 hB62) (cwV 6 hts g_q_works1_3_1 rfl rfl rfl (by decide +kernel) ⟨Nat.le_of_ble_eq_true rfl, Nat.le_of_ble_eq_true rfl⟩) (x_preV (q := (RX12, TX12, 85)) hK hP hD (ci := 11) (q0 := 0) rfl mwd_o0) rfl rfl hl.1 rfl (lv_room (Nat.le_of_ble_eq_true rfl)) dX12_works_317 ⟨Nat.le_of_ble_eq_true rfl, Nat.le_of_ble_eq_true rfl⟩) hP hD hS hA (fun u H locs hw hP hD hS => ?_)
                obtain ⟨f_34, f_35, f_36, f_37, f_38, f_39⟩ := u
                try dsimp only at hw
                have hP : va_P D vwCl (mwd y ad zw (tI (tI (tI (tI (tJ (tJ (sI (tI (sJ (sJ (sI (sI σ 44 0) 44 n_24) 42 j_25) 43 j_26) 63 f_30) 73 i_32) 57 f_34) 58 f_35) 59 f_36) 60 f_37) 61 f_38) 62 f_39)) H := hP
                have hD : va_D A (mwd y ad zw (tI (tI (tI (tI (tJ (tJ (sI (tI (sJ (sJ (sI (sI σ 44 0) 44 n_24) 42 j_25) 43 j_26) 63 f_30) 73 i_32) 57 f_34) 58 f_35) 59 f_36) 60 f_37) 61 f_38) 62 f_39)) := hD
                have hw : (opc f_36 f_37 f_38 ∧ (f_39 1).toInt = ((σ.2.2.1 62) 1).toInt + 1 ∧ f_39 0 = (σ.2.2.1 62) 0) ∧ bJ f_34 (-1000000000) 1000000000 ∧ bJ f_35 0 1000000000 ∧ bI f_39 0 1760 := hw
                obtain ⟨hw, hg_40, hg_41, hg_42⟩ := hw
                obtain ⟨ho9, hl9, hl8⟩ := hw
                refine lv_aload_n hx hb dX12_works_320 rfl (lv_at hl 7 rfl) ?_
                refine va_get (D := D) (ci := 11) (v := .ref (ad 72)) (C := RX12) (T := TX12) (N := 85) hx hb hts inX12 hown hK hP 0 mwd_o0 rfl 72 (by decide) fl160 (fun _ h9 => h9) rfl dX12_works_321 ?_
                refine lv_aload_n hx hb dX12_works_324 rfl (lv_at hl 7 rfl) ?_
                refine va_get (D := D) (ci := 11) (v := .int i_32) (C := RX12) (T := TX12) (N := 85) hx hb hts inX12 hown hK hP 0 mwd_o0 rfl 73 (by decide) fl421 (fun _ h9 => h9) rfl dX12_works_325 ?_
                refine lv_aload_n hx hb dX12_works_328 rfl (lv_at hl 7 rfl) ?_
                refine va_get (D := D) (ci := 11) (v := .ref (ad 62)) (C := RX12) (T := TX12) (N := 85) hx hb hts inX12 hown hK hP 0 mwd_o0 rfl 62 (by decide) fl139 (fun _ h9 => h9) rfl dX12_works_329 ?_
                refine lv_iload_n hx hb dX12_works_332 rfl (lv_at hl 8 rfl) ?_
                refine va_iald hx hb hK hP 42 2 mwd_a42 rfl (x_in (by decide) (by decide)) dX12_works_333 ?_
                refine lv_topi (fun i_43 ei_43 => ?_)
                have ei_43 : i_43 = f_39 (Int32.toNatClampNeg 1) := ei_43
                have gi_43 : i_43.toInt = (f_39 1).toInt := by rw [ei_43]; rfl
                have bi_43 := b_at hg_42 ei_43
                refine lv_iconst (v := 1) hx hb dX12_works_334 (by decide) ?_
                refine lv_isub hx hb dX12_works_335 ?_
                refine lv_topi (fun i_44 ei_44 => ?_)
                have vi_44 : i_44.toInt = i_43.toInt - 1 := by have h9 := x_sub ei_44 (by omega) (by omega); omega
                refine va_iast hx hb hK hP hD hS 49 2 mwd_a49 rfl (x_in (by omega) (by omega)) dX12_works_336 (fun H locs hP hD hS => ?_)
                obtain ⟨f_45, ef_45⟩ : ∃ z9 : Nat → Int32, z9 = (upd (σ.2.2.1 72) (Int32.toNatClampNeg i_32) i_44) := ⟨_, rfl⟩
                have hP : va_P D vwCl (mwd y ad zw (tI (tI (tI (tI (tI (tJ (tJ (sI (tI (sJ (sJ (sI (sI σ 44 0) 44 n_24) 42 j_25) 43 j_26) 63 f_30) 73 i_32) 57 f_34) 58 f_35) 59 f_36) 60 f_37) 61 f_38) 62 f_39) 72 f_45)) H := by rw [ef_45]; exact x_trP hP mwd_s49
                have hD : va_D A (mwd y ad zw (tI (tI (tI (tI (tI (tJ (tJ (sI (tI (sJ (sJ (sI (sI σ 44 0) 44 n_24) 42 j_25) 43 j_26) 63 f_30) 73 i_32) 57 f_34) 58 f_35) 59 f_36) 60 f_37) 61 f_38) 62 f_39) 72 f_45)) := by rw [ef_45]; exact x_trD hD mwd_s49
                have pf_45 : PT (true :: T) f_45 (f_39 1).toInt := by rw [ef_45]; exact PT_pushN (PT_mono (by omega) hPT.2.2) (x_cl (by omega)) (by omega) (by omega)
                refine lv_goto (tgt := 626) hx hb dX12_works_337 (by decide) ?_
                refine lv_aload_n hx hb dX12_works_626 rfl (lv_at hl 7 rfl) ?_
                refine lv_dup hx hb dX12_works_627 rfl ?_
                refine va_get (D := D) (ci := 11) (v := .int i_32) (C := RX12) (T := TX12) (N := 85) hx hb hts inX12 hown hK hP 0 mwd_o0 rfl 73 (by decide) fl421 (fun _ h9 => h9) rfl dX12_works_628 ?_
                refine lv_iconst (v := 1) hx hb dX12_works_631 (by decide) ?_
                refine lv_iadd hx hb dX12_works_632 ?_
                refine lv_topi (fun i_46 ei_46 => ?_)
                have vi_46 : i_46.toInt = i_32.toInt + 1 := by have h9 := x_add ei_46 (by omega) (by omega); omega
                refine va_put (D := D) (ci := 11) (v := .int i_46) (ty := .int) (C := RX12) (T := TX12) (N := 85) hx hb hts inX12 tyX12 tyX12_ok nmX12 hown hK hP hD hS 0 mwd_o0 rfl 73 (by decide) fl421 (fun _ h9 => h9) rfl (by decide +kernel) rfl rfl (Nat.le_of_ble_eq_true rfl) dX12_works_633 (fun H locs hP hD hS => ?_)
                have hP : va_P D vwCl (mwd y ad zw (sI (tI (tI (tI (tI (tI (tJ (tJ (sI (tI (sJ (sJ (sI (sI σ 44 0) 44 n_24) 42 j_25) 43 j_26) 63 f_30) 73 i_32) 57 f_34) 58 f_35) 59 f_36) 60 f_37) 61 f_38) 62 f_39) 72 f_45) 73 i_46)) H := x_trP hP mwd_p0_73
                have hD : va_D A (mwd y ad zw (sI (tI (tI (tI (tI (tI (tJ (tJ (sI (tI (sJ (sJ (sI (sI σ 44 0) 44 n_24) 42 j_25) 43 j_26) 63 f_30) 73 i_32) 57 f_34) 58 f_35) 59 f_36) 60 f_37) 61 f_38) 62 f_39) 72 f_45) 73 i_46)) := x_trD hD mwd_p0_73
                refine lv_iconst (v := 1) hx hb dX12_works_636 (by decide) ?_
                have hP : va_P D vwCl (mwd y ad zw (tI (tI (tI (tI (tJ (tJ (sJ (sJ (sI (sJ (sJ (sI (tI (tI (tI (tI (sI σ 73 i_46) 72 f_45) 63 f_30) 67 (σ.2.2.1 67)) 66 (σ.2.2.1 66)) 44 n_24) 42 j_25) 43 j_26) 68 (σ.1 68)) 69 (σ.2.1 69)) 70 (σ.2.1 70)) 57 f_34) 58 f_35) 59 f_36) 60 f_37) 61 f_38) 62 f_39)) H := hP
                have hD : va_D A (mwd y ad zw (tI (tI (tI (tI (tJ (tJ (sJ (sJ (sI (sJ (sJ (sI (tI (tI (tI (tI (sI σ 73 i_46) 72 f_45) 63 f_30) 67 (σ.2.2.1 67)) 66 (σ.2.2.1 66)) 44 n_24) 42 j_25) 43 j_26) 68 (σ.1 68)) 69 (σ.2.1 69)) 70 (σ.2.1 70)) 57 f_34) 58 f_35) 59 f_36) 60 f_37) 61 f_38) 62 f_39)) := hD
                exact x_zretW (v := 1) (u := (i_46, f_45, f_30, (σ.2.2.1 67), (σ.2.2.1 66), n_24, j_25, j_26, (σ.1 68), (σ.2.1 69), (σ.2.1 70), f_34, f_35, f_36, f_37, f_38, f_39)) hx hb hr hQ rfl (by (try dsimp only); exact ⟨⟨Or.inr ⟨by omega, pf_45, by omega, rfl⟩, ho9, by omega, by omega, hl8⟩, hg_40, hg_41, hg_42, hvf_30⟩) hP hD hK hS dX12_works_637 hlocks
            · exact absurd c_31 (by decide)
          · have kc_27 : n_24.toInt ≠ 0 := by have h9 := c_27; simp only [ge_iff_le, gt_iff_lt, x_lt, x_le, x_eq, ne_eq, Int32.not_lt, Int32.not_le] at h9; simp only [Int32.reduceToInt] at h9; omega
            refine lv_aload_n hx hb dX12_works_259 rfl (lv_at hl 7 rfl) ?_
            refine va_get (D := D) (ci := 11) (v := .ref (ad 67)) (C := RX12) (T := TX12) (N := 85) hx hb hts inX12 hown hK hP 0 mwd_o0 rfl 67 (by decide) fl154 (fun _ h9 => h9) rfl dX12_works_260 ?_
            refine lv_iload_n hx hb dX12_works_263 rfl (lv_at hl 8 rfl) ?_
            refine lv_iconst (v := 1) hx hb dX12_works_264 (by decide) ?_
            refine va_iast hx hb hK hP hD hS 47 2 mwd_a47 rfl (x_in (by decide) (by decide)) dX12_works_265 (fun H locs hP hD hS => ?_)
            obtain ⟨f_47, ef_47⟩ : ∃ z9 : Nat → Int32, z9 = (upd (σ.2.2.1 67) (Int32.toNatClampNeg 1) 1) := ⟨_, rfl⟩
            have hP : va_P D vwCl (mwd y ad zw (tI (sJ (sJ (sI (sI σ 44 0) 44 n_24) 42 j_25) 43 j_26) 67 f_47)) H := by rw [ef_47]; exact x_trP hP mwd_s47
            have hD : va_D A (mwd y ad zw (tI (sJ (sJ (sI (sI σ 44 0) 44 n_24) 42 j_25) 43 j_26) 67 f_47)) := by rw [ef_47]; exact x_trD hD mwd_s47
            refine lv_iconst (v := 0) hx hb dX12_works_266 (by decide) ?_
            have hP : va_P D vwCl (mwd y ad zw (tI (tI (tI (tI (tJ (tJ (sJ (sJ (sI (sJ (sJ (sI (tI (tI (tI (tI (sI σ 73 (σ.1 73)) 72 (σ.2.2.1 72)) 63 (σ.2.2.1 63)) 67 f_47) 66 (σ.2.2.1 66)) 44 n_24) 42 j_25) 43 j_26) 68 (σ.1 68)) 69 (σ.2.1 69)) 70 (σ.2.1 70)) 57 (σ.2.2.2 57)) 58 (σ.2.2.2 58)) 59 (σ.2.2.1 59)) 60 (σ.2.2.1 60)) 61 (σ.2.2.1 61)) 62 (σ.2.2.1 62))) H := hP
            have hD : va_D A (mwd y ad zw (tI (tI (tI (tI (tJ (tJ (sJ (sJ (sI (sJ (sJ (sI (tI (tI (tI (tI (sI σ 73 (σ.1 73)) 72 (σ.2.2.1 72)) 63 (σ.2.2.1 63)) 67 f_47) 66 (σ.2.2.1 66)) 44 n_24) 42 j_25) 43 j_26) 68 (σ.1 68)) 69 (σ.2.1 69)) 70 (σ.2.1 70)) 57 (σ.2.2.2 57)) 58 (σ.2.2.2 58)) 59 (σ.2.2.1 59)) 60 (σ.2.2.1 60)) 61 (σ.2.2.1 61)) 62 (σ.2.2.1 62))) := hD
            exact x_zretW (v := 0) (u := ((σ.1 73), (σ.2.2.1 72), (σ.2.2.1 63), f_47, (σ.2.2.1 66), n_24, j_25, j_26, (σ.1 68), (σ.2.1 69), (σ.2.1 70), (σ.2.2.2 57), (σ.2.2.2 58), (σ.2.2.1 59), (σ.2.2.1 60), (σ.2.2.1 61), (σ.2.2.1 62))) hx hb hr hQ rfl (by (try dsimp only); exact ⟨⟨Or.inl (by rw [ef_47]; show (upd _ 1 _ 1).toInt ≠ 0; rw [x_upd_same]; decide), hop, by omega, by omega, rfl⟩, hB57, hB58, hB62, hB63⟩) hP hD hK hS dX12_works_267 hlocks
        · have kc_23 : j_21.toInt < j_22.toInt := by have h9 := x_tri j_21 j_22; (try simp only [Int64.reduceToInt] at h9); rcases h9 with ⟨g1, g2⟩ | ⟨g1, g2⟩ | ⟨g1, g2⟩ <;> first | omega | (exfalso; rw [g1] at c_23; revert c_23; decide)
          refine lv_iconst (v := 1) hx hb dX12_works_148 (by decide) ?_
          refine lv_goto (tgt := 153) hx hb dX12_works_149 (by decide) ?_
          refine lv_istore (lv' := [(13, .int 1), (11, .long j_20), (9, .long j_17), (7, .long j_14), (5, .long j_11), (4, .int i_8), (3, .int i_5), (0, .ref (ad 1)), (1, .int 1), (2, .int 3)]) hx hb dX12_works_153 hl (by decide) rfl (fun ls hl => ?_)
          refine lv_aload_n hx hb dX12_works_155 rfl (lv_at hl 7 rfl) ?_
          refine lv_iconst (v := 0) hx hb dX12_works_156 (by decide) ?_
          refine va_put (D := D) (ci := 11) (v := .int 0) (ty := .boolean) (C := RX12) (T := TX12) (N := 85) hx hb hts inX12 tyX12 tyX12_ok nmX12 hown hK hP hD hS 0 mwd_o0 rfl 44 (by decide) fl384 (fun _ h9 => h9) rfl (by decide +kernel) rfl rfl (Nat.le_of_ble_eq_true rfl) dX12_works_157 (fun H locs hP hD hS => ?_)
          have hP : va_P D vwCl (mwd y ad zw (sI σ 44 0)) H := x_trP hP mwd_p0_44
          have hD : va_D A (mwd y ad zw (sI σ 44 0)) := x_trD hD mwd_p0_44
          refine lv_iload_n hx hb dX12_works_160 rfl (lv_at hl 9 rfl) ?_
          refine lv_tableIn (tgt := 222) hx hb dX12_works_161 (by decide) (by decide) rfl (by decide) ?_
          refine lv_aload_n hx hb dX12_works_222 rfl (lv_at hl 7 rfl) ?_
          refine lv_lload hx hb dX12_works_223 (lv_at hl 4 rfl) ?_
          refine lv_lload hx hb dX12_works_225 (lv_at hl 3 rfl) ?_
          refine lv_lload hx hb dX12_works_227 (lv_at hl 2 rfl) ?_
          refine lv_lload hx hb dX12_works_229 (lv_at hl 1 rfl) ?_
          refine x_callvW (va_runV (As := [.long j_11, .long j_14, .long j_17, .long j_20]) (rest := []) ⟨hx, hb, hml, hown, hts⟩ (q_multiplies l D y H.size ad zw (sI σ 44 0) j_11 j_14 j_17 j_20 (by first | omega | decide) (by first | omega | decide) (by first | omega | decide) (by first | omega | decide) (by first | omega | decide) (by first | omega | decide) (by first | omega | decide) (by first | omega | decide)) (cwV 4 hts g_q_works1_3_0 rfl rfl rfl (by decide +kernel) ⟨Nat.le_of_ble_eq_true rfl, Nat.le_of_ble_eq_true rfl⟩) (x_preV (q := (RX12, TX12, 85)) hK hP hD (ci := 11) (q0 := 0) rfl mwd_o0) rfl rfl hl.1 rfl (lv_room (Nat.le_of_ble_eq_true rfl)) dX12_works_231 ⟨Nat.le_of_ble_eq_true rfl, Nat.le_of_ble_eq_true rfl⟩) hP hD hS hA (fun u H locs hw hP hD hS => ?_)
          obtain ⟨n_48, j_49, j_50⟩ := u
          try dsimp only at hw
          have hP : va_P D vwCl (mwd y ad zw (sJ (sJ (sI (sI σ 44 0) 44 n_48) 42 j_49) 43 j_50)) H := hP
          have hD : va_D A (mwd y ad zw (sJ (sJ (sI (sI σ 44 0) 44 n_48) 42 j_49) 43 j_50)) := hD
          have hw : -1000000000 ≤ j_49.toInt ∧ j_49.toInt ≤ 1000000000 ∧ 0 ≤ j_50.toInt ∧ j_50.toInt ≤ 1000000000 := hw
          refine lv_goto (tgt := 252) hx hb dX12_works_234 (by decide) ?_
          refine lv_aload_n hx hb dX12_works_252 rfl (lv_at hl 7 rfl) ?_
          refine va_get (D := D) (ci := 11) (v := .int n_48) (C := RX12) (T := TX12) (N := 85) hx hb hts inX12 hown hK hP 0 mwd_o0 rfl 44 (by decide) fl384 (fun _ h9 => h9) rfl dX12_works_253 ?_
          refine lv_if_eq (tgt := 268) hx hb dX12_works_256 (by decide) (fun c_51 => ?_) (fun c_51 => ?_)
          · have kc_51 : n_48.toInt = 0 := by have h9 := c_51; simp only [ge_iff_le, gt_iff_lt, x_lt, x_le, x_eq, ne_eq, Int32.not_lt, Int32.not_le] at h9; simp only [Int32.reduceToInt] at h9; omega
            refine lv_aload_n hx hb dX12_works_268 rfl (lv_at hl 7 rfl) ?_
            refine va_get (D := D) (ci := 11) (v := .ref (ad 63)) (C := RX12) (T := TX12) (N := 85) hx hb hts inX12 hown hK hP 0 mwd_o0 rfl 63 (by decide) fl142 (fun _ h9 => h9) rfl dX12_works_269 ?_
            refine lv_iload_n hx hb dX12_works_272 rfl (lv_at hl 8 rfl) ?_
            refine lv_dup2_11 hx hb dX12_works_273 rfl rfl ?_
            refine va_iald hx hb hK hP 43 2 mwd_a43 rfl (x_in (by decide) (by decide)) dX12_works_274 ?_
            refine lv_topi (fun i_52 ei_52 => ?_)
            have ei_52 : i_52 = (σ.2.2.1 63) (Int32.toNatClampNeg 1) := ei_52
            have gi_52 : i_52.toInt = (σ.2.2.1 63 1).toInt := by rw [ei_52]; rfl
            have bi_52 := b_at hB63 ei_52
            refine lv_iconst (v := 1) hx hb dX12_works_275 (by decide) ?_
            refine lv_iadd hx hb dX12_works_276 ?_
            refine lv_topi (fun i_53 ei_53 => ?_)
            have vi_53 : i_53.toInt = i_52.toInt + 1 := by have h9 := x_add ei_53 (by omega) (by omega); omega
            refine va_iast hx hb hK hP hD hS 43 2 mwd_a43 rfl (x_in (by decide) (by decide)) dX12_works_277 (fun H locs hP hD hS => ?_)
            obtain ⟨f_54, ef_54⟩ : ∃ z9 : Nat → Int32, z9 = (upd (σ.2.2.1 63) (Int32.toNatClampNeg 1) i_53) := ⟨_, rfl⟩
            have hP : va_P D vwCl (mwd y ad zw (tI (sJ (sJ (sI (sI σ 44 0) 44 n_48) 42 j_49) 43 j_50) 63 f_54)) H := by rw [ef_54]; exact x_trP hP mwd_s43
            have hD : va_D A (mwd y ad zw (tI (sJ (sJ (sI (sI σ 44 0) 44 n_48) 42 j_49) 43 j_50) 63 f_54)) := by rw [ef_54]; exact x_trD hD mwd_s43
            have hvf_54 : bI f_54 0 1000 := by rw [ef_54]; exact b_upd hB63 (by omega) (by omega)
            have sf_54 : (f_54 1).toInt = i_53.toInt := by rw [ef_54]; exact congrArg Int32.toInt (x_upd_same _ 1 _)
            refine lv_aload_n hx hb dX12_works_278 rfl (lv_at hl 7 rfl) ?_
            refine lv_dup hx hb dX12_works_279 rfl ?_
            refine va_get (D := D) (ci := 11) (v := .int (σ.1 73)) (C := RX12) (T := TX12) (N := 85) hx hb hts inX12 hown hK hP 0 mwd_o0 rfl 73 (by decide) fl421 (fun _ h9 => h9) rfl dX12_works_280 ?_
            refine lv_iload_n hx hb dX12_works_283 rfl (lv_at hl 9 rfl) ?_
            refine lv_bipush (v := 7) hx hb dX12_works_284 (by decide) ?_
            refine lv_icmp_ne (tgt := 293) hx hb dX12_works_286 (by decide) (fun c_55 => ?_) (fun c_55 => ?_)
            · refine lv_iconst (v := 2) hx hb dX12_works_293 (by decide) ?_
              refine lv_isub hx hb dX12_works_294 ?_
              refine lv_topi (fun i_56 ei_56 => ?_)
              have vi_56 : i_56.toInt = (σ.1 73).toInt - 2 := by have h9 := x_sub ei_56 (by omega) (by omega); omega
              refine va_put (D := D) (ci := 11) (v := .int i_56) (ty := .int) (C := RX12) (T := TX12) (N := 85) hx hb hts inX12 tyX12 tyX12_ok nmX12 hown hK hP hD hS 0 mwd_o0 rfl 73 (by decide) fl421 (fun _ h9 => h9) rfl (by decide +kernel) rfl rfl (Nat.le_of_ble_eq_true rfl) dX12_works_295 (fun H locs hP hD hS => ?_)
              have hP : va_P D vwCl (mwd y ad zw (sI (tI (sJ (sJ (sI (sI σ 44 0) 44 n_48) 42 j_49) 43 j_50) 63 f_54) 73 i_56)) H := x_trP hP mwd_p0_73
              have hD : va_D A (mwd y ad zw (sI (tI (sJ (sJ (sI (sI σ 44 0) 44 n_48) 42 j_49) 43 j_50) 63 f_54) 73 i_56)) := x_trD hD mwd_p0_73
              refine lv_iload_n hx hb dX12_works_298 rfl (lv_at hl 9 rfl) ?_
              refine lv_iconst (v := 4) hx hb dX12_works_299 (by decide) ?_
              refine lv_icmp_gt (tgt := 340) hx hb dX12_works_300 (by decide) (fun c_57 => ?_) (fun c_57 => ?_)
              · exact absurd c_57 (by decide)
              · refine lv_aload_n hx hb dX12_works_303 rfl (lv_at hl 7 rfl) ?_
                refine lv_iload_n hx hb dX12_works_304 rfl (lv_at hl 8 rfl) ?_
                refine lv_aload_n hx hb dX12_works_305 rfl (lv_at hl 7 rfl) ?_
                refine va_get (D := D) (ci := 11) (v := .long j_49) (C := RX12) (T := TX12) (N := 85) hx hb hts inX12 hown hK hP 0 mwd_o0 rfl 42 (by decide) fl387 (fun _ h9 => h9) rfl dX12_works_306 ?_
                refine lv_aload_n hx hb dX12_works_309 rfl (lv_at hl 7 rfl) ?_
                refine va_get (D := D) (ci := 11) (v := .long j_50) (C := RX12) (T := TX12) (N := 85) hx hb hts inX12 hown hK hP 0 mwd_o0 rfl 43 (by decide) fl391 (fun _ h9 => h9) rfl dX12_works_310 ?_
                refine lv_iload_n hx hb dX12_works_313 rfl (lv_at hl 9 rfl) ?_
                refine lv_iload hx hb dX12_works_314 (lv_at hl 5 rfl) ?_
                refine lv_iload_n hx hb dX12_works_316 rfl (lv_at hl 6 rfl) ?_
                refine x_callvW (va_runV (As := [.int 1, .long j_49, .long j_50, .int 3, .int i_8, .int i_5]) (rest := []) ⟨hx, hb, hml, hown, hts⟩ (q_lays1 l D y H.size ad zw (sI (tI (sJ (sJ (sI (sI σ 44 0) 44 n_48) 42 j_49) 43 j_50) 63 f_54) 73 i_56) j_49 j_50 3 i_8 i_5 (by first | omega | decide) (by first | omega | decide) (by first | omega | decide) (by first | omega | decide) hop (fun _ => by omega) (show 0 ≤ ((σ.2.2.1 62) 1).toInt from by first | omega | decide) (show ((σ.2.2.1 62) 1).toInt < 1760 from by first | omega | decide) hB57 hB58 hB62) (cwV 6 hts g_q_works1_3_1 rfl rfl rfl (by decide +kernel) ⟨Nat.le_of_ble_eq_true rfl, Nat.le_of_ble_eq_true rfl⟩) (x_preV (q := (RX12, TX12, 85)) hK hP hD (ci := 11) (q0 := 0) rfl mwd_o0) rfl rfl hl.1 rfl (lv_room (Nat.le_of_ble_eq_true rfl)) dX12_works_317 ⟨Nat.le_of_ble_eq_true rfl, Nat.le_of_ble_eq_true rfl⟩) hP hD hS hA (fun u H locs hw hP hD hS => ?_)
                obtain ⟨f_58, f_59, f_60, f_61, f_62, f_63⟩ := u
                try dsimp only at hw
                have hP : va_P D vwCl (mwd y ad zw (tI (tI (tI (tI (tJ (tJ (sI (tI (sJ (sJ (sI (sI σ 44 0) 44 n_48) 42 j_49) 43 j_50) 63 f_54) 73 i_56) 57 f_58) 58 f_59) 59 f_60) 60 f_61) 61 f_62) 62 f_63)) H := hP
                have hD : va_D A (mwd y ad zw (tI (tI (tI (tI (tJ (tJ (sI (tI (sJ (sJ (sI (sI σ 44 0) 44 n_48) 42 j_49) 43 j_50) 63 f_54) 73 i_56) 57 f_58) 58 f_59) 59 f_60) 60 f_61) 61 f_62) 62 f_63)) := hD
                have hw : (opc f_60 f_61 f_62 ∧ (f_63 1).toInt = ((σ.2.2.1 62) 1).toInt + 1 ∧ f_63 0 = (σ.2.2.1 62) 0) ∧ bJ f_58 (-1000000000) 1000000000 ∧ bJ f_59 0 1000000000 ∧ bI f_63 0 1760 := hw
                obtain ⟨hw, hg_64, hg_65, hg_66⟩ := hw
                obtain ⟨ho9, hl9, hl8⟩ := hw
                refine lv_aload_n hx hb dX12_works_320 rfl (lv_at hl 7 rfl) ?_
                refine va_get (D := D) (ci := 11) (v := .ref (ad 72)) (C := RX12) (T := TX12) (N := 85) hx hb hts inX12 hown hK hP 0 mwd_o0 rfl 72 (by decide) fl160 (fun _ h9 => h9) rfl dX12_works_321 ?_
                refine lv_aload_n hx hb dX12_works_324 rfl (lv_at hl 7 rfl) ?_
                refine va_get (D := D) (ci := 11) (v := .int i_56) (C := RX12) (T := TX12) (N := 85) hx hb hts inX12 hown hK hP 0 mwd_o0 rfl 73 (by decide) fl421 (fun _ h9 => h9) rfl dX12_works_325 ?_
                refine lv_aload_n hx hb dX12_works_328 rfl (lv_at hl 7 rfl) ?_
                refine va_get (D := D) (ci := 11) (v := .ref (ad 62)) (C := RX12) (T := TX12) (N := 85) hx hb hts inX12 hown hK hP 0 mwd_o0 rfl 62 (by decide) fl139 (fun _ h9 => h9) rfl dX12_works_329 ?_
                refine lv_iload_n hx hb dX12_works_332 rfl (lv_at hl 8 rfl) ?_
                refine va_iald hx hb hK hP 42 2 mwd_a42 rfl (x_in (by decide) (by decide)) dX12_works_333 ?_
                refine lv_topi (fun i_67 ei_67 => ?_)
                have ei_67 : i_67 = f_63 (Int32.toNatClampNeg 1) := ei_67
                have gi_67 : i_67.toInt = (f_63 1).toInt := by rw [ei_67]; rfl
                have bi_67 := b_at hg_66 ei_67
                refine lv_iconst (v := 1) hx hb dX12_works_334 (by decide) ?_
                refine lv_isub hx hb dX12_works_335 ?_
                refine lv_topi (fun i_68 ei_68 => ?_)
                have vi_68 : i_68.toInt = i_67.toInt - 1 := by have h9 := x_sub ei_68 (by omega) (by omega); omega
                refine va_iast hx hb hK hP hD hS 49 2 mwd_a49 rfl (x_in (by omega) (by omega)) dX12_works_336 (fun H locs hP hD hS => ?_)
                obtain ⟨f_69, ef_69⟩ : ∃ z9 : Nat → Int32, z9 = (upd (σ.2.2.1 72) (Int32.toNatClampNeg i_56) i_68) := ⟨_, rfl⟩
                have hP : va_P D vwCl (mwd y ad zw (tI (tI (tI (tI (tI (tJ (tJ (sI (tI (sJ (sJ (sI (sI σ 44 0) 44 n_48) 42 j_49) 43 j_50) 63 f_54) 73 i_56) 57 f_58) 58 f_59) 59 f_60) 60 f_61) 61 f_62) 62 f_63) 72 f_69)) H := by rw [ef_69]; exact x_trP hP mwd_s49
                have hD : va_D A (mwd y ad zw (tI (tI (tI (tI (tI (tJ (tJ (sI (tI (sJ (sJ (sI (sI σ 44 0) 44 n_48) 42 j_49) 43 j_50) 63 f_54) 73 i_56) 57 f_58) 58 f_59) 59 f_60) 60 f_61) 61 f_62) 62 f_63) 72 f_69)) := by rw [ef_69]; exact x_trD hD mwd_s49
                have pf_69 : PT (true :: T) f_69 (f_63 1).toInt := by rw [ef_69]; exact PT_pushN (PT_mono (by omega) hPT.2.2) (x_cl (by omega)) (by omega) (by omega)
                refine lv_goto (tgt := 626) hx hb dX12_works_337 (by decide) ?_
                refine lv_aload_n hx hb dX12_works_626 rfl (lv_at hl 7 rfl) ?_
                refine lv_dup hx hb dX12_works_627 rfl ?_
                refine va_get (D := D) (ci := 11) (v := .int i_56) (C := RX12) (T := TX12) (N := 85) hx hb hts inX12 hown hK hP 0 mwd_o0 rfl 73 (by decide) fl421 (fun _ h9 => h9) rfl dX12_works_628 ?_
                refine lv_iconst (v := 1) hx hb dX12_works_631 (by decide) ?_
                refine lv_iadd hx hb dX12_works_632 ?_
                refine lv_topi (fun i_70 ei_70 => ?_)
                have vi_70 : i_70.toInt = i_56.toInt + 1 := by have h9 := x_add ei_70 (by omega) (by omega); omega
                refine va_put (D := D) (ci := 11) (v := .int i_70) (ty := .int) (C := RX12) (T := TX12) (N := 85) hx hb hts inX12 tyX12 tyX12_ok nmX12 hown hK hP hD hS 0 mwd_o0 rfl 73 (by decide) fl421 (fun _ h9 => h9) rfl (by decide +kernel) rfl rfl (Nat.le_of_ble_eq_true rfl) dX12_works_633 (fun H locs hP hD hS => ?_)
                have hP : va_P D vwCl (mwd y ad zw (sI (tI (tI (tI (tI (tI (tJ (tJ (sI (tI (sJ (sJ (sI (sI σ 44 0) 44 n_48) 42 j_49) 43 j_50) 63 f_54) 73 i_56) 57 f_58) 58 f_59) 59 f_60) 60 f_61) 61 f_62) 62 f_63) 72 f_69) 73 i_70)) H := x_trP hP mwd_p0_73
                have hD : va_D A (mwd y ad zw (sI (tI (tI (tI (tI (tI (tJ (tJ (sI (tI (sJ (sJ (sI (sI σ 44 0) 44 n_48) 42 j_49) 43 j_50) 63 f_54) 73 i_56) 57 f_58) 58 f_59) 59 f_60) 60 f_61) 61 f_62) 62 f_63) 72 f_69) 73 i_70)) := x_trD hD mwd_p0_73
                refine lv_iconst (v := 1) hx hb dX12_works_636 (by decide) ?_
                have hP : va_P D vwCl (mwd y ad zw (tI (tI (tI (tI (tJ (tJ (sJ (sJ (sI (sJ (sJ (sI (tI (tI (tI (tI (sI σ 73 i_70) 72 f_69) 63 f_54) 67 (σ.2.2.1 67)) 66 (σ.2.2.1 66)) 44 n_48) 42 j_49) 43 j_50) 68 (σ.1 68)) 69 (σ.2.1 69)) 70 (σ.2.1 70)) 57 f_58) 58 f_59) 59 f_60) 60 f_61) 61 f_62) 62 f_63)) H := hP
                have hD : va_D A (mwd y ad zw (tI (tI (tI (tI (tJ (tJ (sJ (sJ (sI (sJ (sJ (sI (tI (tI (tI (tI (sI σ 73 i_70) 72 f_69) 63 f_54) 67 (σ.2.2.1 67)) 66 (σ.2.2.1 66)) 44 n_48) 42 j_49) 43 j_50) 68 (σ.1 68)) 69 (σ.2.1 69)) 70 (σ.2.1 70)) 57 f_58) 58 f_59) 59 f_60) 60 f_61) 61 f_62) 62 f_63)) := hD
                exact x_zretW (v := 1) (u := (i_70, f_69, f_54, (σ.2.2.1 67), (σ.2.2.1 66), n_48, j_49, j_50, (σ.1 68), (σ.2.1 69), (σ.2.1 70), f_58, f_59, f_60, f_61, f_62, f_63)) hx hb hr hQ rfl (by (try dsimp only); exact ⟨⟨Or.inr ⟨by omega, pf_69, by omega, rfl⟩, ho9, by omega, by omega, hl8⟩, hg_64, hg_65, hg_66, hvf_54⟩) hP hD hK hS dX12_works_637 hlocks
            · exact absurd c_55 (by decide)
          · have kc_51 : n_48.toInt ≠ 0 := by have h9 := c_51; simp only [ge_iff_le, gt_iff_lt, x_lt, x_le, x_eq, ne_eq, Int32.not_lt, Int32.not_le] at h9; simp only [Int32.reduceToInt] at h9; omega
            refine lv_aload_n hx hb dX12_works_259 rfl (lv_at hl 7 rfl) ?_
            refine va_get (D := D) (ci := 11) (v := .ref (ad 67)) (C := RX12) (T := TX12) (N := 85) hx hb hts inX12 hown hK hP 0 mwd_o0 rfl 67 (by decide) fl154 (fun _ h9 => h9) rfl dX12_works_260 ?_
            refine lv_iload_n hx hb dX12_works_263 rfl (lv_at hl 8 rfl) ?_
            refine lv_iconst (v := 1) hx hb dX12_works_264 (by decide) ?_
            refine va_iast hx hb hK hP hD hS 47 2 mwd_a47 rfl (x_in (by decide) (by decide)) dX12_works_265 (fun H locs hP hD hS => ?_)
            obtain ⟨f_71, ef_71⟩ : ∃ z9 : Nat → Int32, z9 = (upd (σ.2.2.1 67) (Int32.toNatClampNeg 1) 1) := ⟨_, rfl⟩
            have hP : va_P D vwCl (mwd y ad zw (tI (sJ (sJ (sI (sI σ 44 0) 44 n_48) 42 j_49) 43 j_50) 67 f_71)) H := by rw [ef_71]; exact x_trP hP mwd_s47
            have hD : va_D A (mwd y ad zw (tI (sJ (sJ (sI (sI σ 44 0) 44 n_48) 42 j_49) 43 j_50) 67 f_71)) := by rw [ef_71]; exact x_trD hD mwd_s47
            refine lv_iconst (v := 0) hx hb dX12_works_266 (by decide) ?_
            have hP : va_P D vwCl (mwd y ad zw (tI (tI (tI (tI (tJ (tJ (sJ (sJ (sI (sJ (sJ (sI (tI (tI (tI (tI (sI σ 73 (σ.1 73)) 72 (σ.2.2.1 72)) 63 (σ.2.2.1 63)) 67 f_71) 66 (σ.2.2.1 66)) 44 n_48) 42 j_49) 43 j_50) 68 (σ.1 68)) 69 (σ.2.1 69)) 70 (σ.2.1 70)) 57 (σ.2.2.2 57)) 58 (σ.2.2.2 58)) 59 (σ.2.2.1 59)) 60 (σ.2.2.1 60)) 61 (σ.2.2.1 61)) 62 (σ.2.2.1 62))) H := hP
            have hD : va_D A (mwd y ad zw (tI (tI (tI (tI (tJ (tJ (sJ (sJ (sI (sJ (sJ (sI (tI (tI (tI (tI (sI σ 73 (σ.1 73)) 72 (σ.2.2.1 72)) 63 (σ.2.2.1 63)) 67 f_71) 66 (σ.2.2.1 66)) 44 n_48) 42 j_49) 43 j_50) 68 (σ.1 68)) 69 (σ.2.1 69)) 70 (σ.2.1 70)) 57 (σ.2.2.2 57)) 58 (σ.2.2.2 58)) 59 (σ.2.2.1 59)) 60 (σ.2.2.1 60)) 61 (σ.2.2.1 61)) 62 (σ.2.2.1 62))) := hD
            exact x_zretW (v := 0) (u := ((σ.1 73), (σ.2.2.1 72), (σ.2.2.1 63), f_71, (σ.2.2.1 66), n_48, j_49, j_50, (σ.1 68), (σ.2.1 69), (σ.2.1 70), (σ.2.2.2 57), (σ.2.2.2 58), (σ.2.2.1 59), (σ.2.2.1 60), (σ.2.2.1 61), (σ.2.2.1 62))) hx hb hr hQ rfl (by (try dsimp only); exact ⟨⟨Or.inl (by rw [ef_71]; show (upd _ 1 _ 1).toInt ≠ 0; rw [x_upd_same]; decide), hop, by omega, by omega, rfl⟩, hB57, hB58, hB62, hB63⟩) hP hD hK hS dX12_works_267 hlocks
      · exact absurd c_6 (by decide)
    · exact absurd c_3 (by decide)
  · have kc_2 : i_1.toInt = 1000 := by have h9 := c_2; simp only [ge_iff_le, gt_iff_lt, x_lt, x_le, x_eq, ne_eq, Int32.not_lt, Int32.not_le] at h9; simp only [Int32.reduceToInt] at h9; omega
    refine lv_aload_n hx hb dX12_works_12 rfl (lv_at hl 0 rfl) ?_
    refine va_get (D := D) (ci := 11) (v := .ref (ad 67)) (C := RX12) (T := TX12) (N := 85) hx hb hts inX12 hown hK hP 0 mwd_o0 rfl 67 (by decide) fl154 (fun _ h9 => h9) rfl dX12_works_13 ?_
    refine lv_iload_n hx hb dX12_works_16 rfl (lv_at hl 1 rfl) ?_
    refine lv_iconst (v := 2) hx hb dX12_works_17 (by decide) ?_
    refine va_iast hx hb hK hP hD hS 47 2 mwd_a47 rfl (x_in (by decide) (by decide)) dX12_works_18 (fun H locs hP hD hS => ?_)
    obtain ⟨f_72, ef_72⟩ : ∃ z9 : Nat → Int32, z9 = (upd (σ.2.2.1 67) (Int32.toNatClampNeg 1) 2) := ⟨_, rfl⟩
    have hP : va_P D vwCl (mwd y ad zw (tI σ 67 f_72)) H := by rw [ef_72]; exact x_trP hP mwd_s47
    have hD : va_D A (mwd y ad zw (tI σ 67 f_72)) := by rw [ef_72]; exact x_trD hD mwd_s47
    refine lv_iconst (v := 0) hx hb dX12_works_19 (by decide) ?_
    have hP : va_P D vwCl (mwd y ad zw (tI (tI (tI (tI (tJ (tJ (sJ (sJ (sI (sJ (sJ (sI (tI (tI (tI (tI (sI σ 73 (σ.1 73)) 72 (σ.2.2.1 72)) 63 (σ.2.2.1 63)) 67 f_72) 66 (σ.2.2.1 66)) 44 (σ.1 44)) 42 (σ.2.1 42)) 43 (σ.2.1 43)) 68 (σ.1 68)) 69 (σ.2.1 69)) 70 (σ.2.1 70)) 57 (σ.2.2.2 57)) 58 (σ.2.2.2 58)) 59 (σ.2.2.1 59)) 60 (σ.2.2.1 60)) 61 (σ.2.2.1 61)) 62 (σ.2.2.1 62))) H := hP
    have hD : va_D A (mwd y ad zw (tI (tI (tI (tI (tJ (tJ (sJ (sJ (sI (sJ (sJ (sI (tI (tI (tI (tI (sI σ 73 (σ.1 73)) 72 (σ.2.2.1 72)) 63 (σ.2.2.1 63)) 67 f_72) 66 (σ.2.2.1 66)) 44 (σ.1 44)) 42 (σ.2.1 42)) 43 (σ.2.1 43)) 68 (σ.1 68)) 69 (σ.2.1 69)) 70 (σ.2.1 70)) 57 (σ.2.2.2 57)) 58 (σ.2.2.2 58)) 59 (σ.2.2.1 59)) 60 (σ.2.2.1 60)) 61 (σ.2.2.1 61)) 62 (σ.2.2.1 62))) := hD
    exact x_zretW (v := 0) (u := ((σ.1 73), (σ.2.2.1 72), (σ.2.2.1 63), f_72, (σ.2.2.1 66), (σ.1 44), (σ.2.1 42), (σ.2.1 43), (σ.1 68), (σ.2.1 69), (σ.2.1 70), (σ.2.2.2 57), (σ.2.2.2 58), (σ.2.2.1 59), (σ.2.2.1 60), (σ.2.2.1 61), (σ.2.2.1 62))) hx hb hr hQ rfl (by (try dsimp only); exact ⟨⟨Or.inl (by rw [ef_72]; show (upd _ 1 _ 1).toInt ≠ 0; rw [x_upd_same]; decide), hop, by omega, by omega, rfl⟩, hB57, hB58, hB62, hB63⟩) hP hD hK hS dX12_works_20 hlocks

def v_q_works1_4 : List Cond := .code yX12_works cX12_works 15 (some .boolean) :: ([.fieldLink RX12 142 "SlopeRunnerModel" "steps" "[I", .fieldLink RX12 160 "SlopeRunnerModel" "pile" "[I", .fieldLink RX12 421 "SlopeRunnerModel" "piled" "I", .fieldLink RX12 124 "SlopeRunnerModel" "valueAbove" "[J", .fieldLink RX12 127 "SlopeRunnerModel" "valueBelow" "[J", .fieldLink RX12 384 "SlopeRunnerModel" "isStuck" "Z", .fieldLink RX12 387 "SlopeRunnerModel" "up" "J", .fieldLink RX12 391 "SlopeRunnerModel" "down" "J", .fieldLink RX12 139 "SlopeRunnerModel" "laid" "[I", .fieldLink RX12 154 "SlopeRunnerModel" "state" "[I"] ++ ((wsV RX12 430 RX12 yX12_divides v_q_divides) ++ ((wsV RX12 433 RX12 yX12_lays v_q_lays1) ++ wsX120)))
theorem g_q_works1_4_0 : GoodIn v_q_works1_4 (wsV RX12 430 RX12 yX12_divides v_q_divides) := goodIn_sub (fun w h => List.mem_cons_of_mem _ (List.mem_append_right _ (List.mem_append_left _ h))) (by decide +kernel)
theorem g_q_works1_4_1 : GoodIn v_q_works1_4 (wsV RX12 433 RX12 yX12_lays v_q_lays1) := goodIn_sub (fun w h => List.mem_cons_of_mem _ (List.mem_append_right _ (List.mem_append_right _ (List.mem_append_left _ h)))) (by decide +kernel)
set_option maxHeartbeats 4000000 in
set_option maxRecDepth 100000 in
theorem q_works1_4 (l : Launch) (D : va_G) (y : Nat → ClassId) (sz : Nat) (ad : Nat → Nat) (zw : Nat → Nat → Int32) (σ : OS) (T : List Bool) (hp : (σ.1 73).toInt = (T.length : Int) + 2) (hT : T.length ≤ 700) (hPT : PT (true :: true :: T) (σ.2.2.1 72) (σ.2.2.1 62 1).toInt) (hop : opc (σ.2.2.1 59) (σ.2.2.1 60) (σ.2.2.1 61)) (hl0 : 0 ≤ (σ.2.2.1 62 1).toInt) (hl1 : (σ.2.2.1 62 1).toInt < 1760) (hB57 : bJ (σ.2.2.2 57) (-1000000000) 1000000000) (hB58 : bJ (σ.2.2.2 58) 0 1000000000) (hB62 : bI (σ.2.2.1 62) 0 1760) (hB63 : bI (σ.2.2.1 63) 0 1000) : Met l yX12_works v_q_works1_4 ({ frames := 4, cells := 0, slots := 0, locals := 108 } : Room) (va_Pc [.ref (ad 1), .int 1, .int 4] (xPre D (xT y) (mwd y ad zw σ) sz)) (va_Qi (fun (r : Int32) (u : Int32 × (Nat → Int32) × (Nat → Int32) × (Nat → Int32) × (Nat → Int32) × Int32 × Int64 × Int64 × Int32 × Int64 × Int64 × (Nat → Int64) × (Nat → Int64) × (Nat → Int32) × (Nat → Int32) × (Nat → Int32) × (Nat → Int32)) => (((u.2.2.2.1 1).toInt ≠ 0 ∨ (u.1.toInt = (T.length : Int) + 1 ∧ PT (true :: T) u.2.1 (u.2.2.2.2.2.2.2.2.2.2.2.2.2.2.2.2 1).toInt ∧ (u.2.2.1 1).toInt = (σ.2.2.1 63 1).toInt + 1 ∧ u.2.2.2.1 = σ.2.2.1 67)) ∧ opc u.2.2.2.2.2.2.2.2.2.2.2.2.2.1 u.2.2.2.2.2.2.2.2.2.2.2.2.2.2.1 u.2.2.2.2.2.2.2.2.2.2.2.2.2.2.2.1 ∧ (σ.2.2.1 62 1).toInt ≤ (u.2.2.2.2.2.2.2.2.2.2.2.2.2.2.2.2 1).toInt ∧ (u.2.2.2.2.2.2.2.2.2.2.2.2.2.2.2.2 1).toInt - (σ.2.2.1 62 1).toInt ≤ (u.2.2.1 1).toInt - (σ.2.2.1 63 1).toInt ∧ u.2.2.2.2.2.2.2.2.2.2.2.2.2.2.2.2 0 = σ.2.2.1 62 0) ∧ bJ u.2.2.2.2.2.2.2.2.2.2.2.1 (-1000000000) 1000000000 ∧ bJ u.2.2.2.2.2.2.2.2.2.2.2.2.1 0 1000000000 ∧ bI u.2.2.2.2.2.2.2.2.2.2.2.2.2.2.2.2 0 1760 ∧ bI u.2.2.1 0 1000) (fun (u : Int32 × (Nat → Int32) × (Nat → Int32) × (Nat → Int32) × (Nat → Int32) × Int32 × Int64 × Int64 × Int32 × Int64 × Int64 × (Nat → Int64) × (Nat → Int64) × (Nat → Int32) × (Nat → Int32) × (Nat → Int32) × (Nat → Int32)) => xB D (xT y) (va_A (mwd y ad zw σ) sz) (mwd y ad zw (tI (tI (tI (tI (tJ (tJ (sJ (sJ (sI (sJ (sJ (sI (tI (tI (tI (tI (sI σ 73 u.1) 72 u.2.1) 63 u.2.2.1) 67 u.2.2.2.1) 66 u.2.2.2.2.1) 44 u.2.2.2.2.2.1) 42 u.2.2.2.2.2.2.1) 43 u.2.2.2.2.2.2.2.1) 68 u.2.2.2.2.2.2.2.2.1) 69 u.2.2.2.2.2.2.2.2.2.1) 70 u.2.2.2.2.2.2.2.2.2.2.1) 57 u.2.2.2.2.2.2.2.2.2.2.2.1) 58 u.2.2.2.2.2.2.2.2.2.2.2.2.1) 59 u.2.2.2.2.2.2.2.2.2.2.2.2.2.1) 60 u.2.2.2.2.2.2.2.2.2.2.2.2.2.2.1) 61 u.2.2.2.2.2.2.2.2.2.2.2.2.2.2.2.1) 62 u.2.2.2.2.2.2.2.2.2.2.2.2.2.2.2.2))) (va_A (mwd y ad zw σ) sz)) 0 0 (va_A (mwd y ad zw σ) sz) := by
  refine x_meti (cc := cX12_works) (maxL := 15) (by decide) rfl (Nat.le_of_ble_eq_true rfl) ?_
  intro p e s m below meth c A H locs Q hx hb hml hown hts hr hlocks hmn hA hP hK hD hS ls hl hQ
  have hl : lv_has ls 15 [(0, .ref (ad 1)), (1, .int 1), (2, .int 4)] := hl
  have fl142 := hts (.fieldLink RX12 142 "SlopeRunnerModel" "steps" "[I") (List.mem_of_getElem? (i := 1) rfl)
  have inX12 : ∀ w ∈ wsX120, w ∈ v_q_works1_4 := (fun w h => List.mem_cons_of_mem _ (List.mem_append_right _ (List.mem_append_right _ (List.mem_append_right _ h))))
  have kk_1000 : (1000 : Int32).toInt = 1000 := rfl
  have fl160 := hts (.fieldLink RX12 160 "SlopeRunnerModel" "pile" "[I") (List.mem_of_getElem? (i := 2) rfl)
  have fl421 := hts (.fieldLink RX12 421 "SlopeRunnerModel" "piled" "I") (List.mem_of_getElem? (i := 3) rfl)
  have kk_1 : (1 : Int32).toInt = 1 := rfl
  have kk_2 : (2 : Int32).toInt = 2 := rfl
  have fl124 := hts (.fieldLink RX12 124 "SlopeRunnerModel" "valueAbove" "[J") (List.mem_of_getElem? (i := 4) rfl)
  have kk_1760 : (1760 : Int32).toInt = 1760 := rfl
  have fl127 := hts (.fieldLink RX12 127 "SlopeRunnerModel" "valueBelow" "[J") (List.mem_of_getElem? (i := 5) rfl)
  have fl384 := hts (.fieldLink RX12 384 "SlopeRunnerModel" "isStuck" "Z") (List.mem_of_getElem? (i := 6) rfl)
  have kk_0 : (0 : Int32).toInt = 0 := rfl
  have fl387 := hts (.fieldLink RX12 387 "SlopeRunnerModel" "up" "J") (List.mem_of_getElem? (i := 7) rfl)
  have fl391 := hts (.fieldLink RX12 391 "SlopeRunnerModel" "down" "J") (List.mem_of_getElem? (i := 8) rfl)
  have kk_4 : (4 : Int32).toInt = 4 := rfl
  have fl139 := hts (.fieldLink RX12 139 "SlopeRunnerModel" "laid" "[I") (List.mem_of_getElem? (i := 9) rfl)
  have fl154 := hts (.fieldLink RX12 154 "SlopeRunnerModel" "state" "[I") (List.mem_of_getElem? (i := 10) rfl)
  refine lv_aload_n hx hb dX12_works_0 rfl (lv_at hl 0 rfl) ?_
  refine va_get (D := D) (ci := 11) (v := .ref (ad 63)) (C := RX12) (T := TX12) (N := 85) hx hb hts inX12 hown hK hP 0 mwd_o0 rfl 63 (by decide) fl142 (fun _ h9 => h9) rfl dX12_works_1 ?_
  refine lv_iload_n hx hb dX12_works_4 rfl (lv_at hl 1 rfl) ?_
  refine va_iald hx hb hK hP 43 2 mwd_a43 rfl (x_in (by decide) (by decide)) dX12_works_5 ?_
  refine lv_topi (fun i_1 ei_1 => ?_)
  have ei_1 : i_1 = (σ.2.2.1 63) (Int32.toNatClampNeg 1) := ei_1
  have gi_1 : i_1.toInt = (σ.2.2.1 63 1).toInt := by rw [ei_1]; rfl
  have bi_1 := b_at hB63 ei_1
  refine lv_sipush (v := 1000) hx hb dX12_works_6 (by decide) ?_
  refine lv_icmp_ne (tgt := 21) hx hb dX12_works_9 (by decide) (fun c_2 => ?_) (fun c_2 => ?_)
  · have kc_2 : i_1.toInt ≠ 1000 := by have h9 := c_2; simp only [ge_iff_le, gt_iff_lt, x_lt, x_le, x_eq, ne_eq, Int32.not_lt, Int32.not_le] at h9; simp only [Int32.reduceToInt] at h9; omega
    refine lv_iload_n hx hb dX12_works_21 rfl (lv_at hl 2 rfl) ?_
    refine lv_bipush (v := 7) hx hb dX12_works_22 (by decide) ?_
    refine lv_icmp_ne (tgt := 41) hx hb dX12_works_24 (by decide) (fun c_3 => ?_) (fun c_3 => ?_)
    · refine lv_aload_n hx hb dX12_works_41 rfl (lv_at hl 0 rfl) ?_
      refine va_get (D := D) (ci := 11) (v := .ref (ad 72)) (C := RX12) (T := TX12) (N := 85) hx hb hts inX12 hown hK hP 0 mwd_o0 rfl 72 (by decide) fl160 (fun _ h9 => h9) rfl dX12_works_42 ?_
      refine lv_aload_n hx hb dX12_works_45 rfl (lv_at hl 0 rfl) ?_
      refine va_get (D := D) (ci := 11) (v := .int (σ.1 73)) (C := RX12) (T := TX12) (N := 85) hx hb hts inX12 hown hK hP 0 mwd_o0 rfl 73 (by decide) fl421 (fun _ h9 => h9) rfl dX12_works_46 ?_
      refine lv_iconst (v := 1) hx hb dX12_works_49 (by decide) ?_
      refine lv_isub hx hb dX12_works_50 ?_
      refine lv_topi (fun i_4 ei_4 => ?_)
      have vi_4 : i_4.toInt = (σ.1 73).toInt - 1 := by have h9 := x_sub ei_4 (by omega) (by omega); omega
      refine va_iald hx hb hK hP 49 2 mwd_a49 rfl (x_in (by omega) (by omega)) dX12_works_51 ?_
      refine lv_topi (fun i_5 ei_5 => ?_)
      have ei_5 : i_5 = (σ.2.2.1 72) (Int32.toNatClampNeg i_4) := ei_5
      have gi_5 := PT_N hPT ei_5 (x_cl (by simp only [List.length_cons]; omega))
      refine lv_istore_n (lv' := [(3, .int i_5), (0, .ref (ad 1)), (1, .int 1), (2, .int 4)]) hx hb dX12_works_52 rfl hl (by decide) rfl (fun ls hl => ?_)
      refine lv_iload_n hx hb dX12_works_53 rfl (lv_at hl 3 rfl) ?_
      refine lv_bipush (v := 7) hx hb dX12_works_54 (by decide) ?_
      refine lv_icmp_ne (tgt := 63) hx hb dX12_works_56 (by decide) (fun c_6 => ?_) (fun c_6 => ?_)
      · refine lv_aload_n hx hb dX12_works_63 rfl (lv_at hl 1 rfl) ?_
        refine va_get (D := D) (ci := 11) (v := .ref (ad 72)) (C := RX12) (T := TX12) (N := 85) hx hb hts inX12 hown hK hP 0 mwd_o0 rfl 72 (by decide) fl160 (fun _ h9 => h9) rfl dX12_works_64 ?_
        refine lv_aload_n hx hb dX12_works_67 rfl (lv_at hl 1 rfl) ?_
        refine va_get (D := D) (ci := 11) (v := .int (σ.1 73)) (C := RX12) (T := TX12) (N := 85) hx hb hts inX12 hown hK hP 0 mwd_o0 rfl 73 (by decide) fl421 (fun _ h9 => h9) rfl dX12_works_68 ?_
        refine lv_iconst (v := 2) hx hb dX12_works_71 (by decide) ?_
        refine lv_isub hx hb dX12_works_72 ?_
        refine lv_topi (fun i_7 ei_7 => ?_)
        have vi_7 : i_7.toInt = (σ.1 73).toInt - 2 := by have h9 := x_sub ei_7 (by omega) (by omega); omega
        refine va_iald hx hb hK hP 49 2 mwd_a49 rfl (x_in (by omega) (by omega)) dX12_works_73 ?_
        refine lv_topi (fun i_8 ei_8 => ?_)
        have ei_8 : i_8 = (σ.2.2.1 72) (Int32.toNatClampNeg i_7) := ei_8
        have gi_8 := PT_N hPT.2 ei_8 (x_cl (by omega))
        refine lv_istore (lv' := [(4, .int i_8), (3, .int i_5), (0, .ref (ad 1)), (1, .int 1), (2, .int 4)]) hx hb dX12_works_74 hl (by decide) rfl (fun ls hl => ?_)
        refine lv_aload_n hx hb dX12_works_76 rfl (lv_at hl 2 rfl) ?_
        refine va_get (D := D) (ci := 11) (v := .ref (ad 57)) (C := RX12) (T := TX12) (N := 85) hx hb hts inX12 hown hK hP 0 mwd_o0 rfl 57 (by decide) fl124 (fun _ h9 => h9) rfl dX12_works_77 ?_
        refine lv_sipush (v := 1760) hx hb dX12_works_80 (by decide) ?_
        refine lv_iload_n hx hb dX12_works_83 rfl (lv_at hl 3 rfl) ?_
        refine lv_imul hx hb dX12_works_84 ?_
        refine lv_topi (fun i_9 ei_9 => ?_)
        obtain rfl : i_9 = 1760 := ei_9.trans (by decide)
        refine lv_iload hx hb dX12_works_85 (lv_at hl 0 rfl) ?_
        refine lv_iadd hx hb dX12_works_87 ?_
        refine lv_topi (fun i_10 ei_10 => ?_)
        have vi_10 : i_10.toInt = 1760 + i_8.toInt := by have h9 := x_add ei_10 (by omega) (by omega); omega
        refine va_lald hx hb hK hP 37 3 mwd_a37 rfl (x_in (by omega) (by omega)) dX12_works_88 ?_
        refine lv_topl (fun j_11 ej_11 => ?_)
        have ej_11 : j_11 = (σ.2.2.2 57) (Int32.toNatClampNeg i_10) := ej_11
        have bj_11 := b_atJ hB57 ej_11
        refine lv_lstore (lv' := [(5, .long j_11), (4, .int i_8), (3, .int i_5), (0, .ref (ad 1)), (1, .int 1), (2, .int 4)]) hx hb dX12_works_89 hl (by decide) rfl (fun ls hl => ?_)
        refine lv_aload_n hx hb dX12_works_91 rfl (lv_at hl 3 rfl) ?_
        refine va_get (D := D) (ci := 11) (v := .ref (ad 58)) (C := RX12) (T := TX12) (N := 85) hx hb hts inX12 hown hK hP 0 mwd_o0 rfl 58 (by decide) fl127 (fun _ h9 => h9) rfl dX12_works_92 ?_
        refine lv_sipush (v := 1760) hx hb dX12_works_95 (by decide) ?_
        refine lv_iload_n hx hb dX12_works_98 rfl (lv_at hl 4 rfl) ?_
        refine lv_imul hx hb dX12_works_99 ?_
        refine lv_topi (fun i_12 ei_12 => ?_)
        obtain rfl : i_12 = 1760 := ei_12.trans (by decide)
        refine lv_iload hx hb dX12_works_100 (lv_at hl 1 rfl) ?_
        refine lv_iadd hx hb dX12_works_102 ?_
        refine lv_topi (fun i_13 ei_13 => ?_)
        have vi_13 : i_13.toInt = 1760 + i_8.toInt := by have h9 := x_add ei_13 (by omega) (by omega); omega
        refine va_lald hx hb hK hP 38 3 mwd_a38 rfl (x_in (by omega) (by omega)) dX12_works_103 ?_
        refine lv_topl (fun j_14 ej_14 => ?_)
        have ej_14 : j_14 = (σ.2.2.2 58) (Int32.toNatClampNeg i_13) := ej_14
        have bj_14 := b_atJ hB58 ej_14
        refine lv_lstore (lv' := [(7, .long j_14), (5, .long j_11), (4, .int i_8), (3, .int i_5), (0, .ref (ad 1)), (1, .int 1), (2, .int 4)]) hx hb dX12_works_104 hl (by decide) rfl (fun ls hl => ?_)
        refine lv_aload_n hx hb dX12_works_106 rfl (lv_at hl 4 rfl) ?_
        refine va_get (D := D) (ci := 11) (v := .ref (ad 57)) (C := RX12) (T := TX12) (N := 85) hx hb hts inX12 hown hK hP 0 mwd_o0 rfl 57 (by decide) fl124 (fun _ h9 => h9) rfl dX12_works_107 ?_
        refine lv_sipush (v := 1760) hx hb dX12_works_110 (by decide) ?_
        refine lv_iload_n hx hb dX12_works_113 rfl (lv_at hl 5 rfl) ?_
        refine lv_imul hx hb dX12_works_114 ?_
        refine lv_topi (fun i_15 ei_15 => ?_)
        obtain rfl : i_15 = 1760 := ei_15.trans (by decide)
        refine lv_iload_n hx hb dX12_works_115 rfl (lv_at hl 3 rfl) ?_
        refine lv_iadd hx hb dX12_works_116 ?_
        refine lv_topi (fun i_16 ei_16 => ?_)
        have vi_16 : i_16.toInt = 1760 + i_5.toInt := by have h9 := x_add ei_16 (by omega) (by omega); omega
        refine va_lald hx hb hK hP 37 3 mwd_a37 rfl (x_in (by omega) (by omega)) dX12_works_117 ?_
        refine lv_topl (fun j_17 ej_17 => ?_)
        have ej_17 : j_17 = (σ.2.2.2 57) (Int32.toNatClampNeg i_16) := ej_17
        have bj_17 := b_atJ hB57 ej_17
        refine lv_lstore (lv' := [(9, .long j_17), (7, .long j_14), (5, .long j_11), (4, .int i_8), (3, .int i_5), (0, .ref (ad 1)), (1, .int 1), (2, .int 4)]) hx hb dX12_works_118 hl (by decide) rfl (fun ls hl => ?_)
        refine lv_aload_n hx hb dX12_works_120 rfl (lv_at hl 5 rfl) ?_
        refine va_get (D := D) (ci := 11) (v := .ref (ad 58)) (C := RX12) (T := TX12) (N := 85) hx hb hts inX12 hown hK hP 0 mwd_o0 rfl 58 (by decide) fl127 (fun _ h9 => h9) rfl dX12_works_121 ?_
        refine lv_sipush (v := 1760) hx hb dX12_works_124 (by decide) ?_
        refine lv_iload_n hx hb dX12_works_127 rfl (lv_at hl 6 rfl) ?_
        refine lv_imul hx hb dX12_works_128 ?_
        refine lv_topi (fun i_18 ei_18 => ?_)
        obtain rfl : i_18 = 1760 := ei_18.trans (by decide)
        refine lv_iload_n hx hb dX12_works_129 rfl (lv_at hl 4 rfl) ?_
        refine lv_iadd hx hb dX12_works_130 ?_
        refine lv_topi (fun i_19 ei_19 => ?_)
        have vi_19 : i_19.toInt = 1760 + i_5.toInt := by have h9 := x_add ei_19 (by omega) (by omega); omega
        refine va_lald hx hb hK hP 38 3 mwd_a38 rfl (x_in (by omega) (by omega)) dX12_works_131 ?_
        refine lv_topl (fun j_20 ej_20 => ?_)
        have ej_20 : j_20 = (σ.2.2.2 58) (Int32.toNatClampNeg i_19) := ej_20
        have bj_20 := b_atJ hB58 ej_20
        refine lv_lstore (lv' := [(11, .long j_20), (9, .long j_17), (7, .long j_14), (5, .long j_11), (4, .int i_8), (3, .int i_5), (0, .ref (ad 1)), (1, .int 1), (2, .int 4)]) hx hb dX12_works_132 hl (by decide) rfl (fun ls hl => ?_)
        refine lv_lload hx hb dX12_works_134 (lv_at hl 3 rfl) ?_
        refine lv_lload hx hb dX12_works_136 (lv_at hl 0 rfl) ?_
        refine lv_lmul hx hb dX12_works_138 ?_
        refine lv_topl (fun j_21 ej_21 => ?_)
        have vj_21 := x_mulB ej_21 (by omega) (by omega) (by omega) (by omega)
        refine lv_lload hx hb dX12_works_139 (lv_at hl 1 rfl) ?_
        refine lv_lload hx hb dX12_works_141 (lv_at hl 2 rfl) ?_
        refine lv_lmul hx hb dX12_works_143 ?_
        refine lv_topl (fun j_22 ej_22 => ?_)
        have vj_22 := x_mulB ej_22 (by omega) (by omega) (by omega) (by omega)
        refine W.lcmp hx hb dX12_works_144 ?_
        refine lv_if_ge (tgt := 152) hx hb dX12_works_145 (by decide) (fun c_23 => ?_) (fun c_23 => ?_)
        · have kc_23 : j_21.toInt ≥ j_22.toInt := by have h9 := x_tri j_21 j_22; (try simp only [Int64.reduceToInt] at h9); rcases h9 with ⟨g1, g2⟩ | ⟨g1, g2⟩ | ⟨g1, g2⟩ <;> first | omega | (exfalso; rw [g1] at c_23; revert c_23; decide)
          refine lv_iconst (v := 0) hx hb dX12_works_152 (by decide) ?_
          refine lv_istore (lv' := [(13, .int 0), (11, .long j_20), (9, .long j_17), (7, .long j_14), (5, .long j_11), (4, .int i_8), (3, .int i_5), (0, .ref (ad 1)), (1, .int 1), (2, .int 4)]) hx hb dX12_works_153 hl (by decide) rfl (fun ls hl => ?_)
          refine lv_aload_n hx hb dX12_works_155 rfl (lv_at hl 7 rfl) ?_
          refine lv_iconst (v := 0) hx hb dX12_works_156 (by decide) ?_
          refine va_put (D := D) (ci := 11) (v := .int 0) (ty := .boolean) (C := RX12) (T := TX12) (N := 85) hx hb hts inX12 tyX12 tyX12_ok nmX12 hown hK hP hD hS 0 mwd_o0 rfl 44 (by decide) fl384 (fun _ h9 => h9) rfl (by decide +kernel) rfl rfl (Nat.le_of_ble_eq_true rfl) dX12_works_157 (fun H locs hP hD hS => ?_)
          have hP : va_P D vwCl (mwd y ad zw (sI σ 44 0)) H := x_trP hP mwd_p0_44
          have hD : va_D A (mwd y ad zw (sI σ 44 0)) := x_trD hD mwd_p0_44
          refine lv_iload_n hx hb dX12_works_160 rfl (lv_at hl 9 rfl) ?_
          refine lv_tableIn (tgt := 237) hx hb dX12_works_161 (by decide) (by decide) rfl (by decide) ?_
          refine lv_aload_n hx hb dX12_works_237 rfl (lv_at hl 7 rfl) ?_
          refine lv_lload hx hb dX12_works_238 (lv_at hl 4 rfl) ?_
          refine lv_lload hx hb dX12_works_240 (lv_at hl 3 rfl) ?_
          refine lv_lload hx hb dX12_works_242 (lv_at hl 2 rfl) ?_
          refine lv_lload hx hb dX12_works_244 (lv_at hl 1 rfl) ?_
          refine x_callvW (va_runV (As := [.long j_11, .long j_14, .long j_17, .long j_20]) (rest := []) ⟨hx, hb, hml, hown, hts⟩ (q_divides l D y H.size ad zw (sI σ 44 0) j_11 j_14 j_17 j_20 (by first | omega | decide) (by first | omega | decide) (by first | omega | decide) (by first | omega | decide) (by first | omega | decide) (by first | omega | decide) (by first | omega | decide) (by first | omega | decide)) (cwV 4 hts g_q_works1_4_0 rfl rfl rfl (by decide +kernel) ⟨Nat.le_of_ble_eq_true rfl, Nat.le_of_ble_eq_true rfl⟩) (x_preV (q := (RX12, TX12, 85)) hK hP hD (ci := 11) (q0 := 0) rfl mwd_o0) rfl rfl hl.1 rfl (lv_room (Nat.le_of_ble_eq_true rfl)) dX12_works_246 ⟨Nat.le_of_ble_eq_true rfl, Nat.le_of_ble_eq_true rfl⟩) hP hD hS hA (fun u H locs hw hP hD hS => ?_)
          obtain ⟨n_24, j_25, j_26⟩ := u
          try dsimp only at hw
          have hP : va_P D vwCl (mwd y ad zw (sJ (sJ (sI (sI σ 44 0) 44 n_24) 42 j_25) 43 j_26)) H := hP
          have hD : va_D A (mwd y ad zw (sJ (sJ (sI (sI σ 44 0) 44 n_24) 42 j_25) 43 j_26)) := hD
          have hw : -1000000000 ≤ j_25.toInt ∧ j_25.toInt ≤ 1000000000 ∧ 0 ≤ j_26.toInt ∧ j_26.toInt ≤ 1000000000 := hw
          refine lv_goto (tgt := 252) hx hb dX12_works_249 (by decide) ?_
          refine lv_aload_n hx hb dX12_works_252 rfl (lv_at hl 7 rfl) ?_
          refine va_get (D := D) (ci := 11) (v := .int n_24) (C := RX12) (T := TX12) (N := 85) hx hb hts inX12 hown hK hP 0 mwd_o0 rfl 44 (by decide) fl384 (fun _ h9 => h9) rfl dX12_works_253 ?_
          refine lv_if_eq (tgt := 268) hx hb dX12_works_256 (by decide) (fun c_27 => ?_) (fun c_27 => ?_)
          · have kc_27 : n_24.toInt = 0 := by have h9 := c_27; simp only [ge_iff_le, gt_iff_lt, x_lt, x_le, x_eq, ne_eq, Int32.not_lt, Int32.not_le] at h9; simp only [Int32.reduceToInt] at h9; omega
            refine lv_aload_n hx hb dX12_works_268 rfl (lv_at hl 7 rfl) ?_
            refine va_get (D := D) (ci := 11) (v := .ref (ad 63)) (C := RX12) (T := TX12) (N := 85) hx hb hts inX12 hown hK hP 0 mwd_o0 rfl 63 (by decide) fl142 (fun _ h9 => h9) rfl dX12_works_269 ?_
            refine lv_iload_n hx hb dX12_works_272 rfl (lv_at hl 8 rfl) ?_
            refine lv_dup2_11 hx hb dX12_works_273 rfl rfl ?_
            refine va_iald hx hb hK hP 43 2 mwd_a43 rfl (x_in (by decide) (by decide)) dX12_works_274 ?_
            refine lv_topi (fun i_28 ei_28 => ?_)
            have ei_28 : i_28 = (σ.2.2.1 63) (Int32.toNatClampNeg 1) := ei_28
            have gi_28 : i_28.toInt = (σ.2.2.1 63 1).toInt := by rw [ei_28]; rfl
            have bi_28 := b_at hB63 ei_28
            refine lv_iconst (v := 1) hx hb dX12_works_275 (by decide) ?_
            refine lv_iadd hx hb dX12_works_276 ?_
            refine lv_topi (fun i_29 ei_29 => ?_)
            have vi_29 : i_29.toInt = i_28.toInt + 1 := by have h9 := x_add ei_29 (by omega) (by omega); omega
            refine va_iast hx hb hK hP hD hS 43 2 mwd_a43 rfl (x_in (by decide) (by decide)) dX12_works_277 (fun H locs hP hD hS => ?_)
            obtain ⟨f_30, ef_30⟩ : ∃ z9 : Nat → Int32, z9 = (upd (σ.2.2.1 63) (Int32.toNatClampNeg 1) i_29) := ⟨_, rfl⟩
            have hP : va_P D vwCl (mwd y ad zw (tI (sJ (sJ (sI (sI σ 44 0) 44 n_24) 42 j_25) 43 j_26) 63 f_30)) H := by rw [ef_30]; exact x_trP hP mwd_s43
            have hD : va_D A (mwd y ad zw (tI (sJ (sJ (sI (sI σ 44 0) 44 n_24) 42 j_25) 43 j_26) 63 f_30)) := by rw [ef_30]; exact x_trD hD mwd_s43
            have hvf_30 : bI f_30 0 1000 := by rw [ef_30]; exact b_upd hB63 (by omega) (by omega)
            have sf_30 : (f_30 1).toInt = i_29.toInt := by rw [ef_30]; exact congrArg Int32.toInt (x_upd_same _ 1 _)
            refine lv_aload_n hx hb dX12_works_278 rfl (lv_at hl 7 rfl) ?_
            refine lv_dup hx hb dX12_works_279 rfl ?_
            refine va_get (D := D) (ci := 11) (v := .int (σ.1 73)) (C := RX12) (T := TX12) (N := 85) hx hb hts inX12 hown hK hP 0 mwd_o0 rfl 73 (by decide) fl421 (fun _ h9 => h9) rfl dX12_works_280 ?_
            refine lv_iload_n hx hb dX12_works_283 rfl (lv_at hl 9 rfl) ?_
            refine lv_bipush (v := 7) hx hb dX12_works_284 (by decide) ?_
            refine lv_icmp_ne (tgt := 293) hx hb dX12_works_286 (by decide) (fun c_31 => ?_) (fun c_31 => ?_)
            · refine lv_iconst (v := 2) hx hb dX12_works_293 (by decide) ?_
              refine lv_isub hx hb dX12_works_294 ?_
              refine lv_topi (fun i_32 ei_32 => ?_)
              have vi_32 : i_32.toInt = (σ.1 73).toInt - 2 := by have h9 := x_sub ei_32 (by omega) (by omega); omega
              refine va_put (D := D) (ci := 11) (v := .int i_32) (ty := .int) (C := RX12) (T := TX12) (N := 85) hx hb hts inX12 tyX12 tyX12_ok nmX12 hown hK hP hD hS 0 mwd_o0 rfl 73 (by decide) fl421 (fun _ h9 => h9) rfl (by decide +kernel) rfl rfl (Nat.le_of_ble_eq_true rfl) dX12_works_295 (fun H locs hP hD hS => ?_)
              have hP : va_P D vwCl (mwd y ad zw (sI (tI (sJ (sJ (sI (sI σ 44 0) 44 n_24) 42 j_25) 43 j_26) 63 f_30) 73 i_32)) H := x_trP hP mwd_p0_73
              have hD : va_D A (mwd y ad zw (sI (tI (sJ (sJ (sI (sI σ 44 0) 44 n_24) 42 j_25) 43 j_26) 63 f_30) 73 i_32)) := x_trD hD mwd_p0_73
              refine lv_iload_n hx hb dX12_works_298 rfl (lv_at hl 9 rfl) ?_
              refine lv_iconst (v := 4) hx hb dX12_works_299 (by decide) ?_
              refine lv_icmp_gt (tgt := 340) hx hb dX12_works_300 (by decide) (fun c_33 => ?_) (fun c_33 => ?_)
              · exact absurd c_33 (by decide)
              · refine lv_aload_n hx hb dX12_works_303 rfl (lv_at hl 7 rfl) ?_
                refine lv_iload_n hx hb dX12_works_304 rfl (lv_at hl 8 rfl) ?_
                refine lv_aload_n hx hb dX12_works_305 rfl (lv_at hl 7 rfl) ?_
                refine va_get (D := D) (ci := 11) (v := .long j_25) (C := RX12) (T := TX12) (N := 85) hx hb hts inX12 hown hK hP 0 mwd_o0 rfl 42 (by decide) fl387 (fun _ h9 => h9) rfl dX12_works_306 ?_
                refine lv_aload_n hx hb dX12_works_309 rfl (lv_at hl 7 rfl) ?_
                refine va_get (D := D) (ci := 11) (v := .long j_26) (C := RX12) (T := TX12) (N := 85) hx hb hts inX12 hown hK hP 0 mwd_o0 rfl 43 (by decide) fl391 (fun _ h9 => h9) rfl dX12_works_310 ?_
                refine lv_iload_n hx hb dX12_works_313 rfl (lv_at hl 9 rfl) ?_
                refine lv_iload hx hb dX12_works_314 (lv_at hl 5 rfl) ?_
                refine lv_iload_n hx hb dX12_works_316 rfl (lv_at hl 6 rfl) ?_
                refine x_callvW (va_runV (As := [.int 1, .long j_25, .long j_26, .int 4, .int i_8, .int i_5]) (rest := []) ⟨hx, hb, hml, hown, hts⟩ (q_lays1 l D y H.size ad zw (sI (tI (sJ (sJ (sI (sI σ 44 0) 44 n_24) 42 j_25) 43 j_26) 63 f_30) 73 i_32) j_25 j_26 4 i_8 i_5 (by first | omega | decide) (by first | omega | decide) (by first | omega | decide) (by first | omega | decide) hop (fun _ => by omega) (show 0 ≤ ((σ.2.2.1 62) 1).toInt from by first | omega | decide) (show ((σ.2.2.1 62) 1).toInt < 1760 from by first | omega | decide) hB57 hB58 hB62) (cwV 6 hts g_q_works1_4_1 rfl rfl rfl (by decide +kernel) ⟨Nat.le_of_ble_eq_true rfl, Nat.le_of_ble_eq_true rfl⟩) (x_preV (q := (RX12, TX12, 85)) hK hP hD (ci := 11) (q0 := 0) rfl mwd_o0) rfl rfl hl.1 rfl (lv_room (Nat.le_of_ble_eq_true rfl)) dX12_works_317 ⟨Nat.le_of_ble_eq_true rfl, Nat.le_of_ble_eq_true rfl⟩) hP hD hS hA (fun u H locs hw hP hD hS => ?_)
                obtain ⟨f_34, f_35, f_36, f_37, f_38, f_39⟩ := u
                try dsimp only at hw
                have hP : va_P D vwCl (mwd y ad zw (tI (tI (tI (tI (tJ (tJ (sI (tI (sJ (sJ (sI (sI σ 44 0) 44 n_24) 42 j_25) 43 j_26) 63 f_30) 73 i_32) 57 f_34) 58 f_35) 59 f_36) 60 f_37) 61 f_38) 62 f_39)) H := hP
                have hD : va_D A (mwd y ad zw (tI (tI (tI (tI (tJ (tJ (sI (tI (sJ (sJ (sI (sI σ 44 0) 44 n_24) 42 j_25) 43 j_26) 63 f_30) 73 i_32) 57 f_34) 58 f_35) 59 f_36) 60 f_37) 61 f_38) 62 f_39)) := hD
                have hw : (opc f_36 f_37 f_38 ∧ (f_39 1).toInt = ((σ.2.2.1 62) 1).toInt + 1 ∧ f_39 0 = (σ.2.2.1 62) 0) ∧ bJ f_34 (-1000000000) 1000000000 ∧ bJ f_35 0 1000000000 ∧ bI f_39 0 1760 := hw
                obtain ⟨hw, hg_40, hg_41, hg_42⟩ := hw
                obtain ⟨ho9, hl9, hl8⟩ := hw
                refine lv_aload_n hx hb dX12_works_320 rfl (lv_at hl 7 rfl) ?_
                refine va_get (D := D) (ci := 11) (v := .ref (ad 72)) (C := RX12) (T := TX12) (N := 85) hx hb hts inX12 hown hK hP 0 mwd_o0 rfl 72 (by decide) fl160 (fun _ h9 => h9) rfl dX12_works_321 ?_
                refine lv_aload_n hx hb dX12_works_324 rfl (lv_at hl 7 rfl) ?_
                refine va_get (D := D) (ci := 11) (v := .int i_32) (C := RX12) (T := TX12) (N := 85) hx hb hts inX12 hown hK hP 0 mwd_o0 rfl 73 (by decide) fl421 (fun _ h9 => h9) rfl dX12_works_325 ?_
                refine lv_aload_n hx hb dX12_works_328 rfl (lv_at hl 7 rfl) ?_
                refine va_get (D := D) (ci := 11) (v := .ref (ad 62)) (C := RX12) (T := TX12) (N := 85) hx hb hts inX12 hown hK hP 0 mwd_o0 rfl 62 (by decide) fl139 (fun _ h9 => h9) rfl dX12_works_329 ?_
                refine lv_iload_n hx hb dX12_works_332 rfl (lv_at hl 8 rfl) ?_
                refine va_iald hx hb hK hP 42 2 mwd_a42 rfl (x_in (by decide) (by decide)) dX12_works_333 ?_
                refine lv_topi (fun i_43 ei_43 => ?_)
                have ei_43 : i_43 = f_39 (Int32.toNatClampNeg 1) := ei_43
                have gi_43 : i_43.toInt = (f_39 1).toInt := by rw [ei_43]; rfl
                have bi_43 := b_at hg_42 ei_43
                refine lv_iconst (v := 1) hx hb dX12_works_334 (by decide) ?_
                refine lv_isub hx hb dX12_works_335 ?_
                refine lv_topi (fun i_44 ei_44 => ?_)
                have vi_44 : i_44.toInt = i_43.toInt - 1 := by have h9 := x_sub ei_44 (by omega) (by omega); omega
                refine va_iast hx hb hK hP hD hS 49 2 mwd_a49 rfl (x_in (by omega) (by omega)) dX12_works_336 (fun H locs hP hD hS => ?_)
                obtain ⟨f_45, ef_45⟩ : ∃ z9 : Nat → Int32, z9 = (upd (σ.2.2.1 72) (Int32.toNatClampNeg i_32) i_44) := ⟨_, rfl⟩
                have hP : va_P D vwCl (mwd y ad zw (tI (tI (tI (tI (tI (tJ (tJ (sI (tI (sJ (sJ (sI (sI σ 44 0) 44 n_24) 42 j_25) 43 j_26) 63 f_30) 73 i_32) 57 f_34) 58 f_35) 59 f_36) 60 f_37) 61 f_38) 62 f_39) 72 f_45)) H := by rw [ef_45]; exact x_trP hP mwd_s49
                have hD : va_D A (mwd y ad zw (tI (tI (tI (tI (tI (tJ (tJ (sI (tI (sJ (sJ (sI (sI σ 44 0) 44 n_24) 42 j_25) 43 j_26) 63 f_30) 73 i_32) 57 f_34) 58 f_35) 59 f_36) 60 f_37) 61 f_38) 62 f_39) 72 f_45)) := by rw [ef_45]; exact x_trD hD mwd_s49
                have pf_45 : PT (true :: T) f_45 (f_39 1).toInt := by rw [ef_45]; exact PT_pushN (PT_mono (by omega) hPT.2.2) (x_cl (by omega)) (by omega) (by omega)
                refine lv_goto (tgt := 626) hx hb dX12_works_337 (by decide) ?_
                refine lv_aload_n hx hb dX12_works_626 rfl (lv_at hl 7 rfl) ?_
                refine lv_dup hx hb dX12_works_627 rfl ?_
                refine va_get (D := D) (ci := 11) (v := .int i_32) (C := RX12) (T := TX12) (N := 85) hx hb hts inX12 hown hK hP 0 mwd_o0 rfl 73 (by decide) fl421 (fun _ h9 => h9) rfl dX12_works_628 ?_
                refine lv_iconst (v := 1) hx hb dX12_works_631 (by decide) ?_
                refine lv_iadd hx hb dX12_works_632 ?_
                refine lv_topi (fun i_46 ei_46 => ?_)
                have vi_46 : i_46.toInt = i_32.toInt + 1 := by have h9 := x_add ei_46 (by omega) (by omega); omega
                refine va_put (D := D) (ci := 11) (v := .int i_46) (ty := .int) (C := RX12) (T := TX12) (N := 85) hx hb hts inX12 tyX12 tyX12_ok nmX12 hown hK hP hD hS 0 mwd_o0 rfl 73 (by decide) fl421 (fun _ h9 => h9) rfl (by decide +kernel) rfl rfl (Nat.le_of_ble_eq_true rfl) dX12_works_633 (fun H locs hP hD hS => ?_)
                have hP : va_P D vwCl (mwd y ad zw (sI (tI (tI (tI (tI (tI (tJ (tJ (sI (tI (sJ (sJ (sI (sI σ 44 0) 44 n_24) 42 j_25) 43 j_26) 63 f_30) 73 i_32) 57 f_34) 58 f_35) 59 f_36) 60 f_37) 61 f_38) 62 f_39) 72 f_45) 73 i_46)) H := x_trP hP mwd_p0_73
                have hD : va_D A (mwd y ad zw (sI (tI (tI (tI (tI (tI (tJ (tJ (sI (tI (sJ (sJ (sI (sI σ 44 0) 44 n_24) 42 j_25) 43 j_26) 63 f_30) 73 i_32) 57 f_34) 58 f_35) 59 f_36) 60 f_37) 61 f_38) 62 f_39) 72 f_45) 73 i_46)) := x_trD hD mwd_p0_73
                refine lv_iconst (v := 1) hx hb dX12_works_636 (by decide) ?_
                have hP : va_P D vwCl (mwd y ad zw (tI (tI (tI (tI (tJ (tJ (sJ (sJ (sI (sJ (sJ (sI (tI (tI (tI (tI (sI σ 73 i_46) 72 f_45) 63 f_30) 67 (σ.2.2.1 67)) 66 (σ.2.2.1 66)) 44 n_24) 42 j_25) 43 j_26) 68 (σ.1 68)) 69 (σ.2.1 69)) 70 (σ.2.1 70)) 57 f_34) 58 f_35) 59 f_36) 60 f_37) 61 f_38) 62 f_39)) H := hP
                have hD : va_D A (mwd y ad zw (tI (tI (tI (tI (tJ (tJ (sJ (sJ (sI (sJ (sJ (sI (tI (tI (tI (tI (sI σ 73 i_46) 72 f_45) 63 f_30) 67 (σ.2.2.1 67)) 66 (σ.2.2.1 66)) 44 n_24) 42 j_25) 43 j_26) 68 (σ.1 68)) 69 (σ.2.1 69)) 70 (σ.2.1 70)) 57 f_34) 58 f_35) 59 f_36) 60 f_37) 61 f_38) 62 f_39)) := hD
                exact x_zretW (v := 1) (u := (i_46, f_45, f_30, (σ.2.2.1 67), (σ.2.2.1 66), n_24, j_25, j_26, (σ.1 68), (σ.2.1 69), (σ.2.1 70), f_34, f_35, f_36, f_37, f_38, f_39)) hx hb hr hQ rfl (by (try dsimp only); exact ⟨⟨Or.inr ⟨by omega, pf_45, by omega, rfl⟩, ho9, by omega, by omega, hl8⟩, hg_40, hg_41, hg_42, hvf_30⟩) hP hD hK hS dX12_works_637 hlocks
            · exact absurd c_31 (by decide)
          · have kc_27 : n_24.toInt ≠ 0 := by have h9 := c_27; simp only [ge_iff_le, gt_iff_lt, x_lt, x_le, x_eq, ne_eq, Int32.not_lt, Int32.not_le] at h9; simp only [Int32.reduceToInt] at h9; omega
            refine lv_aload_n hx hb dX12_works_259 rfl (lv_at hl 7 rfl) ?_
            refine va_get (D := D) (ci := 11) (v := .ref (ad 67)) (C := RX12) (T := TX12) (N := 85) hx hb hts inX12 hown hK hP 0 mwd_o0 rfl 67 (by decide) fl154 (fun _ h9 => h9) rfl dX12_works_260 ?_
            refine lv_iload_n hx hb dX12_works_263 rfl (lv_at hl 8 rfl) ?_
            refine lv_iconst (v := 1) hx hb dX12_works_264 (by decide) ?_
            refine va_iast hx hb hK hP hD hS 47 2 mwd_a47 rfl (x_in (by decide) (by decide)) dX12_works_265 (fun H locs hP hD hS => ?_)
            obtain ⟨f_47, ef_47⟩ : ∃ z9 : Nat → Int32, z9 = (upd (σ.2.2.1 67) (Int32.toNatClampNeg 1) 1) := ⟨_, rfl⟩
            have hP : va_P D vwCl (mwd y ad zw (tI (sJ (sJ (sI (sI σ 44 0) 44 n_24) 42 j_25) 43 j_26) 67 f_47)) H := by rw [ef_47]; exact x_trP hP mwd_s47
            have hD : va_D A (mwd y ad zw (tI (sJ (sJ (sI (sI σ 44 0) 44 n_24) 42 j_25) 43 j_26) 67 f_47)) := by rw [ef_47]; exact x_trD hD mwd_s47
            refine lv_iconst (v := 0) hx hb dX12_works_266 (by decide) ?_
            have hP : va_P D vwCl (mwd y ad zw (tI (tI (tI (tI (tJ (tJ (sJ (sJ (sI (sJ (sJ (sI (tI (tI (tI (tI (sI σ 73 (σ.1 73)) 72 (σ.2.2.1 72)) 63 (σ.2.2.1 63)) 67 f_47) 66 (σ.2.2.1 66)) 44 n_24) 42 j_25) 43 j_26) 68 (σ.1 68)) 69 (σ.2.1 69)) 70 (σ.2.1 70)) 57 (σ.2.2.2 57)) 58 (σ.2.2.2 58)) 59 (σ.2.2.1 59)) 60 (σ.2.2.1 60)) 61 (σ.2.2.1 61)) 62 (σ.2.2.1 62))) H := hP
            have hD : va_D A (mwd y ad zw (tI (tI (tI (tI (tJ (tJ (sJ (sJ (sI (sJ (sJ (sI (tI (tI (tI (tI (sI σ 73 (σ.1 73)) 72 (σ.2.2.1 72)) 63 (σ.2.2.1 63)) 67 f_47) 66 (σ.2.2.1 66)) 44 n_24) 42 j_25) 43 j_26) 68 (σ.1 68)) 69 (σ.2.1 69)) 70 (σ.2.1 70)) 57 (σ.2.2.2 57)) 58 (σ.2.2.2 58)) 59 (σ.2.2.1 59)) 60 (σ.2.2.1 60)) 61 (σ.2.2.1 61)) 62 (σ.2.2.1 62))) := hD
            exact x_zretW (v := 0) (u := ((σ.1 73), (σ.2.2.1 72), (σ.2.2.1 63), f_47, (σ.2.2.1 66), n_24, j_25, j_26, (σ.1 68), (σ.2.1 69), (σ.2.1 70), (σ.2.2.2 57), (σ.2.2.2 58), (σ.2.2.1 59), (σ.2.2.1 60), (σ.2.2.1 61), (σ.2.2.1 62))) hx hb hr hQ rfl (by (try dsimp only); exact ⟨⟨Or.inl (by rw [ef_47]; show (upd _ 1 _ 1).toInt ≠ 0; rw [x_upd_same]; decide), hop, by omega, by omega, rfl⟩, hB57, hB58, hB62, hB63⟩) hP hD hK hS dX12_works_267 hlocks
        · have kc_23 : j_21.toInt < j_22.toInt := by have h9 := x_tri j_21 j_22; (try simp only [Int64.reduceToInt] at h9); rcases h9 with ⟨g1, g2⟩ | ⟨g1, g2⟩ | ⟨g1, g2⟩ <;> first | omega | (exfalso; rw [g1] at c_23; revert c_23; decide)
          refine lv_iconst (v := 1) hx hb dX12_works_148 (by decide) ?_
          refine lv_goto (tgt := 153) hx hb dX12_works_149 (by decide) ?_
          refine lv_istore (lv' := [(13, .int 1), (11, .long j_20), (9, .long j_17), (7, .long j_14), (5, .long j_11), (4, .int i_8), (3, .int i_5), (0, .ref (ad 1)), (1, .int 1), (2, .int 4)]) hx hb dX12_works_153 hl (by decide) rfl (fun ls hl => ?_)
          refine lv_aload_n hx hb dX12_works_155 rfl (lv_at hl 7 rfl) ?_
          refine lv_iconst (v := 0) hx hb dX12_works_156 (by decide) ?_
          refine va_put (D := D) (ci := 11) (v := .int 0) (ty := .boolean) (C := RX12) (T := TX12) (N := 85) hx hb hts inX12 tyX12 tyX12_ok nmX12 hown hK hP hD hS 0 mwd_o0 rfl 44 (by decide) fl384 (fun _ h9 => h9) rfl (by decide +kernel) rfl rfl (Nat.le_of_ble_eq_true rfl) dX12_works_157 (fun H locs hP hD hS => ?_)
          have hP : va_P D vwCl (mwd y ad zw (sI σ 44 0)) H := x_trP hP mwd_p0_44
          have hD : va_D A (mwd y ad zw (sI σ 44 0)) := x_trD hD mwd_p0_44
          refine lv_iload_n hx hb dX12_works_160 rfl (lv_at hl 9 rfl) ?_
          refine lv_tableIn (tgt := 237) hx hb dX12_works_161 (by decide) (by decide) rfl (by decide) ?_
          refine lv_aload_n hx hb dX12_works_237 rfl (lv_at hl 7 rfl) ?_
          refine lv_lload hx hb dX12_works_238 (lv_at hl 4 rfl) ?_
          refine lv_lload hx hb dX12_works_240 (lv_at hl 3 rfl) ?_
          refine lv_lload hx hb dX12_works_242 (lv_at hl 2 rfl) ?_
          refine lv_lload hx hb dX12_works_244 (lv_at hl 1 rfl) ?_
          refine x_callvW (va_runV (As := [.long j_11, .long j_14, .long j_17, .long j_20]) (rest := []) ⟨hx, hb, hml, hown, hts⟩ (q_divides l D y H.size ad zw (sI σ 44 0) j_11 j_14 j_17 j_20 (by first | omega | decide) (by first | omega | decide) (by first | omega | decide) (by first | omega | decide) (by first | omega | decide) (by first | omega | decide) (by first | omega | decide) (by first | omega | decide)) (cwV 4 hts g_q_works1_4_0 rfl rfl rfl (by decide +kernel) ⟨Nat.le_of_ble_eq_true rfl, Nat.le_of_ble_eq_true rfl⟩) (x_preV (q := (RX12, TX12, 85)) hK hP hD (ci := 11) (q0 := 0) rfl mwd_o0) rfl rfl hl.1 rfl (lv_room (Nat.le_of_ble_eq_true rfl)) dX12_works_246 ⟨Nat.le_of_ble_eq_true rfl, Nat.le_of_ble_eq_true rfl⟩) hP hD hS hA (fun u H locs hw hP hD hS => ?_)
          obtain ⟨n_48, j_49, j_50⟩ := u
          try dsimp only at hw
          have hP : va_P D vwCl (mwd y ad zw (sJ (sJ (sI (sI σ 44 0) 44 n_48) 42 j_49) 43 j_50)) H := hP
          have hD : va_D A (mwd y ad zw (sJ (sJ (sI (sI σ 44 0) 44 n_48) 42 j_49) 43 j_50)) := hD
          have hw : -1000000000 ≤ j_49.toInt ∧ j_49.toInt ≤ 1000000000 ∧ 0 ≤ j_50.toInt ∧ j_50.toInt ≤ 1000000000 := hw
          refine lv_goto (tgt := 252) hx hb dX12_works_249 (by decide) ?_
          refine lv_aload_n hx hb dX12_works_252 rfl (lv_at hl 7 rfl) ?_
          refine va_get (D := D) (ci := 11) (v := .int n_48) (C := RX12) (T := TX12) (N := 85) hx hb hts inX12 hown hK hP 0 mwd_o0 rfl 44 (by decide) fl384 (fun _ h9 => h9) rfl dX12_works_253 ?_
          refine lv_if_eq (tgt := 268) hx hb dX12_works_256 (by decide) (fun c_51 => ?_) (fun c_51 => ?_)
          · have kc_51 : n_48.toInt = 0 := by have h9 := c_51; simp only [ge_iff_le, gt_iff_lt, x_lt, x_le, x_eq, ne_eq, Int32.not_lt, Int32.not_le] at h9; simp only [Int32.reduceToInt] at h9; omega
            refine lv_aload_n hx hb dX12_works_268 rfl (lv_at hl 7 rfl) ?_
            refine va_get (D := D) (ci := 11) (v := .ref (ad 63)) (C := RX12) (T := TX12) (N := 85) hx hb hts inX12 hown hK hP 0 mwd_o0 rfl 63 (by decide) fl142 (fun _ h9 => h9) rfl dX12_works_269 ?_
            refine lv_iload_n hx hb dX12_works_272 rfl (lv_at hl 8 rfl) ?_
            refine lv_dup2_11 hx hb dX12_works_273 rfl rfl ?_
            refine va_iald hx hb hK hP 43 2 mwd_a43 rfl (x_in (by decide) (by decide)) dX12_works_274 ?_
            refine lv_topi (fun i_52 ei_52 => ?_)
            have ei_52 : i_52 = (σ.2.2.1 63) (Int32.toNatClampNeg 1) := ei_52
            have gi_52 : i_52.toInt = (σ.2.2.1 63 1).toInt := by rw [ei_52]; rfl
            have bi_52 := b_at hB63 ei_52
            refine lv_iconst (v := 1) hx hb dX12_works_275 (by decide) ?_
            refine lv_iadd hx hb dX12_works_276 ?_
            refine lv_topi (fun i_53 ei_53 => ?_)
            have vi_53 : i_53.toInt = i_52.toInt + 1 := by have h9 := x_add ei_53 (by omega) (by omega); omega
            refine va_iast hx hb hK hP hD hS 43 2 mwd_a43 rfl (x_in (by decide) (by decide)) dX12_works_277 (fun H locs hP hD hS => ?_)
            obtain ⟨f_54, ef_54⟩ : ∃ z9 : Nat → Int32, z9 = (upd (σ.2.2.1 63) (Int32.toNatClampNeg 1) i_53) := ⟨_, rfl⟩
            have hP : va_P D vwCl (mwd y ad zw (tI (sJ (sJ (sI (sI σ 44 0) 44 n_48) 42 j_49) 43 j_50) 63 f_54)) H := by rw [ef_54]; exact x_trP hP mwd_s43
            have hD : va_D A (mwd y ad zw (tI (sJ (sJ (sI (sI σ 44 0) 44 n_48) 42 j_49) 43 j_50) 63 f_54)) := by rw [ef_54]; exact x_trD hD mwd_s43
            have hvf_54 : bI f_54 0 1000 := by rw [ef_54]; exact b_upd hB63 (by omega) (by omega)
            have sf_54 : (f_54 1).toInt = i_53.toInt := by rw [ef_54]; exact congrArg Int32.toInt (x_upd_same _ 1 _)
            refine lv_aload_n hx hb dX12_works_278 rfl (lv_at hl 7 rfl) ?_
            refine lv_dup hx hb dX12_works_279 rfl ?_
            refine va_get (D := D) (ci := 11) (v := .int (σ.1 73)) (C := RX12) (T := TX12) (N := 85) hx hb hts inX12 hown hK hP 0 mwd_o0 rfl 73 (by decide) fl421 (fun _ h9 => h9) rfl dX12_works_280 ?_
            refine lv_iload_n hx hb dX12_works_283 rfl (lv_at hl 9 rfl) ?_
            refine lv_bipush (v := 7) hx hb dX12_works_284 (by decide) ?_
            refine lv_icmp_ne (tgt := 293) hx hb dX12_works_286 (by decide) (fun c_55 => ?_) (fun c_55 => ?_)
            · refine lv_iconst (v := 2) hx hb dX12_works_293 (by decide) ?_
              refine lv_isub hx hb dX12_works_294 ?_
              refine lv_topi (fun i_56 ei_56 => ?_)
              have vi_56 : i_56.toInt = (σ.1 73).toInt - 2 := by have h9 := x_sub ei_56 (by omega) (by omega); omega
              refine va_put (D := D) (ci := 11) (v := .int i_56) (ty := .int) (C := RX12) (T := TX12) (N := 85) hx hb hts inX12 tyX12 tyX12_ok nmX12 hown hK hP hD hS 0 mwd_o0 rfl 73 (by decide) fl421 (fun _ h9 => h9) rfl (by decide +kernel) rfl rfl (Nat.le_of_ble_eq_true rfl) dX12_works_295 (fun H locs hP hD hS => ?_)
              have hP : va_P D vwCl (mwd y ad zw (sI (tI (sJ (sJ (sI (sI σ 44 0) 44 n_48) 42 j_49) 43 j_50) 63 f_54) 73 i_56)) H := x_trP hP mwd_p0_73
              have hD : va_D A (mwd y ad zw (sI (tI (sJ (sJ (sI (sI σ 44 0) 44 n_48) 42 j_49) 43 j_50) 63 f_54) 73 i_56)) := x_trD hD mwd_p0_73
              refine lv_iload_n hx hb dX12_works_298 rfl (lv_at hl 9 rfl) ?_
              refine lv_iconst (v := 4) hx hb dX12_works_299 (by decide) ?_
              refine lv_icmp_gt (tgt := 340) hx hb dX12_works_300 (by decide) (fun c_57 => ?_) (fun c_57 => ?_)
              · exact absurd c_57 (by decide)
              · refine lv_aload_n hx hb dX12_works_303 rfl (lv_at hl 7 rfl) ?_
                refine lv_iload_n hx hb dX12_works_304 rfl (lv_at hl 8 rfl) ?_
                refine lv_aload_n hx hb dX12_works_305 rfl (lv_at hl 7 rfl) ?_
                refine va_get (D := D) (ci := 11) (v := .long j_49) (C := RX12) (T := TX12) (N := 85) hx hb hts inX12 hown hK hP 0 mwd_o0 rfl 42 (by decide) fl387 (fun _ h9 => h9) rfl dX12_works_306 ?_
                refine lv_aload_n hx hb dX12_works_309 rfl (lv_at hl 7 rfl) ?_
                refine va_get (D := D) (ci := 11) (v := .long j_50) (C := RX12) (T := TX12) (N := 85) hx hb hts inX12 hown hK hP 0 mwd_o0 rfl 43 (by decide) fl391 (fun _ h9 => h9) rfl dX12_works_310 ?_
                refine lv_iload_n hx hb dX12_works_313 rfl (lv_at hl 9 rfl) ?_
                refine lv_iload hx hb dX12_works_314 (lv_at hl 5 rfl) ?_
                refine lv_iload_n hx hb dX12_works_316 rfl (lv_at hl 6 rfl) ?_
                refine x_callvW (va_runV (As := [.int 1, .long j_49, .long j_50, .int 4, .int i_8, .int i_5]) (rest := []) ⟨hx, hb, hml, hown, hts⟩ (q_lays1 l D y H.size ad zw (sI (tI (sJ (sJ (sI (sI σ 44 0) 44 n_48) 42 j_49) 43 j_50) 63 f_54) 73 i_56) j_49 j_50 4 i_8 i_5 (by first | omega | decide) (by first | omega | decide) (by first | omega | decide) (by first | omega | decide) hop (fun _ => by omega) (show 0 ≤ ((σ.2.2.1 62) 1).toInt from by first | omega | decide) (show ((σ.2.2.1 62) 1).toInt < 1760 from by first | omega | decide) hB57 hB58 hB62) (cwV 6 hts g_q_works1_4_1 rfl rfl rfl (by decide +kernel) ⟨Nat.le_of_ble_eq_true rfl, Nat.le_of_ble_eq_true rfl⟩) (x_preV (q := (RX12, TX12, 85)) hK hP hD (ci := 11) (q0 := 0) rfl mwd_o0) rfl rfl hl.1 rfl (lv_room (Nat.le_of_ble_eq_true rfl)) dX12_works_317 ⟨Nat.le_of_ble_eq_true rfl, Nat.le_of_ble_eq_true rfl⟩) hP hD hS hA (fun u H locs hw hP hD hS => ?_)
                obtain ⟨f_58, f_59, f_60, f_61, f_62, f_63⟩ := u
                try dsimp only at hw
                have hP : va_P D vwCl (mwd y ad zw (tI (tI (tI (tI (tJ (tJ (sI (tI (sJ (sJ (sI (sI σ 44 0) 44 n_48) 42 j_49) 43 j_50) 63 f_54) 73 i_56) 57 f_58) 58 f_59) 59 f_60) 60 f_61) 61 f_62) 62 f_63)) H := hP
                have hD : va_D A (mwd y ad zw (tI (tI (tI (tI (tJ (tJ (sI (tI (sJ (sJ (sI (sI σ 44 0) 44 n_48) 42 j_49) 43 j_50) 63 f_54) 73 i_56) 57 f_58) 58 f_59) 59 f_60) 60 f_61) 61 f_62) 62 f_63)) := hD
                have hw : (opc f_60 f_61 f_62 ∧ (f_63 1).toInt = ((σ.2.2.1 62) 1).toInt + 1 ∧ f_63 0 = (σ.2.2.1 62) 0) ∧ bJ f_58 (-1000000000) 1000000000 ∧ bJ f_59 0 1000000000 ∧ bI f_63 0 1760 := hw
                obtain ⟨hw, hg_64, hg_65, hg_66⟩ := hw
                obtain ⟨ho9, hl9, hl8⟩ := hw
                refine lv_aload_n hx hb dX12_works_320 rfl (lv_at hl 7 rfl) ?_
                refine va_get (D := D) (ci := 11) (v := .ref (ad 72)) (C := RX12) (T := TX12) (N := 85) hx hb hts inX12 hown hK hP 0 mwd_o0 rfl 72 (by decide) fl160 (fun _ h9 => h9) rfl dX12_works_321 ?_
                refine lv_aload_n hx hb dX12_works_324 rfl (lv_at hl 7 rfl) ?_
                refine va_get (D := D) (ci := 11) (v := .int i_56) (C := RX12) (T := TX12) (N := 85) hx hb hts inX12 hown hK hP 0 mwd_o0 rfl 73 (by decide) fl421 (fun _ h9 => h9) rfl dX12_works_325 ?_
                refine lv_aload_n hx hb dX12_works_328 rfl (lv_at hl 7 rfl) ?_
                refine va_get (D := D) (ci := 11) (v := .ref (ad 62)) (C := RX12) (T := TX12) (N := 85) hx hb hts inX12 hown hK hP 0 mwd_o0 rfl 62 (by decide) fl139 (fun _ h9 => h9) rfl dX12_works_329 ?_
                refine lv_iload_n hx hb dX12_works_332 rfl (lv_at hl 8 rfl) ?_
                refine va_iald hx hb hK hP 42 2 mwd_a42 rfl (x_in (by decide) (by decide)) dX12_works_333 ?_
                refine lv_topi (fun i_67 ei_67 => ?_)
                have ei_67 : i_67 = f_63 (Int32.toNatClampNeg 1) := ei_67
                have gi_67 : i_67.toInt = (f_63 1).toInt := by rw [ei_67]; rfl
                have bi_67 := b_at hg_66 ei_67
                refine lv_iconst (v := 1) hx hb dX12_works_334 (by decide) ?_
                refine lv_isub hx hb dX12_works_335 ?_
                refine lv_topi (fun i_68 ei_68 => ?_)
                have vi_68 : i_68.toInt = i_67.toInt - 1 := by have h9 := x_sub ei_68 (by omega) (by omega); omega
                refine va_iast hx hb hK hP hD hS 49 2 mwd_a49 rfl (x_in (by omega) (by omega)) dX12_works_336 (fun H locs hP hD hS => ?_)
                obtain ⟨f_69, ef_69⟩ : ∃ z9 : Nat → Int32, z9 = (upd (σ.2.2.1 72) (Int32.toNatClampNeg i_56) i_68) := ⟨_, rfl⟩
                have hP : va_P D vwCl (mwd y ad zw (tI (tI (tI (tI (tI (tJ (tJ (sI (tI (sJ (sJ (sI (sI σ 44 0) 44 n_48) 42 j_49) 43 j_50) 63 f_54) 73 i_56) 57 f_58) 58 f_59) 59 f_60) 60 f_61) 61 f_62) 62 f_63) 72 f_69)) H := by rw [ef_69]; exact x_trP hP mwd_s49
                have hD : va_D A (mwd y ad zw (tI (tI (tI (tI (tI (tJ (tJ (sI (tI (sJ (sJ (sI (sI σ 44 0) 44 n_48) 42 j_49) 43 j_50) 63 f_54) 73 i_56) 57 f_58) 58 f_59) 59 f_60) 60 f_61) 61 f_62) 62 f_63) 72 f_69)) := by rw [ef_69]; exact x_trD hD mwd_s49
                have pf_69 : PT (true :: T) f_69 (f_63 1).toInt := by rw [ef_69]; exact PT_pushN (PT_mono (by omega) hPT.2.2) (x_cl (by omega)) (by omega) (by omega)
                refine lv_goto (tgt := 626) hx hb dX12_works_337 (by decide) ?_
                refine lv_aload_n hx hb dX12_works_626 rfl (lv_at hl 7 rfl) ?_
                refine lv_dup hx hb dX12_works_627 rfl ?_
                refine va_get (D := D) (ci := 11) (v := .int i_56) (C := RX12) (T := TX12) (N := 85) hx hb hts inX12 hown hK hP 0 mwd_o0 rfl 73 (by decide) fl421 (fun _ h9 => h9) rfl dX12_works_628 ?_
                refine lv_iconst (v := 1) hx hb dX12_works_631 (by decide) ?_
                refine lv_iadd hx hb dX12_works_632 ?_
                refine lv_topi (fun i_70 ei_70 => ?_)
                have vi_70 : i_70.toInt = i_56.toInt + 1 := by have h9 := x_add ei_70 (by omega) (by omega); omega
                refine va_put (D := D) (ci := 11) (v := .int i_70) (ty := .int) (C := RX12) (T := TX12) (N := 85) hx hb hts inX12 tyX12 tyX12_ok nmX12 hown hK hP hD hS 0 mwd_o0 rfl 73 (by decide) fl421 (fun _ h9 => h9) rfl (by decide +kernel) rfl rfl (Nat.le_of_ble_eq_true rfl) dX12_works_633 (fun H locs hP hD hS => ?_)
                have hP : va_P D vwCl (mwd y ad zw (sI (tI (tI (tI (tI (tI (tJ (tJ (sI (tI (sJ (sJ (sI (sI σ 44 0) 44 n_48) 42 j_49) 43 j_50) 63 f_54) 73 i_56) 57 f_58) 58 f_59) 59 f_60) 60 f_61) 61 f_62) 62 f_63) 72 f_69) 73 i_70)) H := x_trP hP mwd_p0_73
                have hD : va_D A (mwd y ad zw (sI (tI (tI (tI (tI (tI (tJ (tJ (sI (tI (sJ (sJ (sI (sI σ 44 0) 44 n_48) 42 j_49) 43 j_50) 63 f_54) 73 i_56) 57 f_58) 58 f_59) 59 f_60) 60 f_61) 61 f_62) 62 f_63) 72 f_69) 73 i_70)) := x_trD hD mwd_p0_73
                refine lv_iconst (v := 1) hx hb dX12_works_636 (by decide) ?_
                have hP : va_P D vwCl (mwd y ad zw (tI (tI (tI (tI (tJ (tJ (sJ (sJ (sI (sJ (sJ (sI (tI (tI (tI (tI (sI σ 73 i_70) 72 f_69) 63 f_54) 67 (σ.2.2.1 67)) 66 (σ.2.2.1 66)) 44 n_48) 42 j_49) 43 j_50) 68 (σ.1 68)) 69 (σ.2.1 69)) 70 (σ.2.1 70)) 57 f_58) 58 f_59) 59 f_60) 60 f_61) 61 f_62) 62 f_63)) H := hP
                have hD : va_D A (mwd y ad zw (tI (tI (tI (tI (tJ (tJ (sJ (sJ (sI (sJ (sJ (sI (tI (tI (tI (tI (sI σ 73 i_70) 72 f_69) 63 f_54) 67 (σ.2.2.1 67)) 66 (σ.2.2.1 66)) 44 n_48) 42 j_49) 43 j_50) 68 (σ.1 68)) 69 (σ.2.1 69)) 70 (σ.2.1 70)) 57 f_58) 58 f_59) 59 f_60) 60 f_61) 61 f_62) 62 f_63)) := hD
                exact x_zretW (v := 1) (u := (i_70, f_69, f_54, (σ.2.2.1 67), (σ.2.2.1 66), n_48, j_49, j_50, (σ.1 68), (σ.2.1 69), (σ.2.1 70), f_58, f_59, f_60, f_61, f_62, f_63)) hx hb hr hQ rfl (by (try dsimp only); exact ⟨⟨Or.inr ⟨by omega, pf_69, by omega, rfl⟩, ho9, by omega, by omega, hl8⟩, hg_64, hg_65, hg_66, hvf_54⟩) hP hD hK hS dX12_works_637 hlocks
            · exact absurd c_55 (by decide)
          · have kc_51 : n_48.toInt ≠ 0 := by have h9 := c_51; simp only [ge_iff_le, gt_iff_lt, x_lt, x_le, x_eq, ne_eq, Int32.not_lt, Int32.not_le] at h9; simp only [Int32.reduceToInt] at h9; omega
            refine lv_aload_n hx hb dX12_works_259 rfl (lv_at hl 7 rfl) ?_
            refine va_get (D := D) (ci := 11) (v := .ref (ad 67)) (C := RX12) (T := TX12) (N := 85) hx hb hts inX12 hown hK hP 0 mwd_o0 rfl 67 (by decide) fl154 (fun _ h9 => h9) rfl dX12_works_260 ?_
            refine lv_iload_n hx hb dX12_works_263 rfl (lv_at hl 8 rfl) ?_
            refine lv_iconst (v := 1) hx hb dX12_works_264 (by decide) ?_
            refine va_iast hx hb hK hP hD hS 47 2 mwd_a47 rfl (x_in (by decide) (by decide)) dX12_works_265 (fun H locs hP hD hS => ?_)
            obtain ⟨f_71, ef_71⟩ : ∃ z9 : Nat → Int32, z9 = (upd (σ.2.2.1 67) (Int32.toNatClampNeg 1) 1) := ⟨_, rfl⟩
            have hP : va_P D vwCl (mwd y ad zw (tI (sJ (sJ (sI (sI σ 44 0) 44 n_48) 42 j_49) 43 j_50) 67 f_71)) H := by rw [ef_71]; exact x_trP hP mwd_s47
            have hD : va_D A (mwd y ad zw (tI (sJ (sJ (sI (sI σ 44 0) 44 n_48) 42 j_49) 43 j_50) 67 f_71)) := by rw [ef_71]; exact x_trD hD mwd_s47
            refine lv_iconst (v := 0) hx hb dX12_works_266 (by decide) ?_
            have hP : va_P D vwCl (mwd y ad zw (tI (tI (tI (tI (tJ (tJ (sJ (sJ (sI (sJ (sJ (sI (tI (tI (tI (tI (sI σ 73 (σ.1 73)) 72 (σ.2.2.1 72)) 63 (σ.2.2.1 63)) 67 f_71) 66 (σ.2.2.1 66)) 44 n_48) 42 j_49) 43 j_50) 68 (σ.1 68)) 69 (σ.2.1 69)) 70 (σ.2.1 70)) 57 (σ.2.2.2 57)) 58 (σ.2.2.2 58)) 59 (σ.2.2.1 59)) 60 (σ.2.2.1 60)) 61 (σ.2.2.1 61)) 62 (σ.2.2.1 62))) H := hP
            have hD : va_D A (mwd y ad zw (tI (tI (tI (tI (tJ (tJ (sJ (sJ (sI (sJ (sJ (sI (tI (tI (tI (tI (sI σ 73 (σ.1 73)) 72 (σ.2.2.1 72)) 63 (σ.2.2.1 63)) 67 f_71) 66 (σ.2.2.1 66)) 44 n_48) 42 j_49) 43 j_50) 68 (σ.1 68)) 69 (σ.2.1 69)) 70 (σ.2.1 70)) 57 (σ.2.2.2 57)) 58 (σ.2.2.2 58)) 59 (σ.2.2.1 59)) 60 (σ.2.2.1 60)) 61 (σ.2.2.1 61)) 62 (σ.2.2.1 62))) := hD
            exact x_zretW (v := 0) (u := ((σ.1 73), (σ.2.2.1 72), (σ.2.2.1 63), f_71, (σ.2.2.1 66), n_48, j_49, j_50, (σ.1 68), (σ.2.1 69), (σ.2.1 70), (σ.2.2.2 57), (σ.2.2.2 58), (σ.2.2.1 59), (σ.2.2.1 60), (σ.2.2.1 61), (σ.2.2.1 62))) hx hb hr hQ rfl (by (try dsimp only); exact ⟨⟨Or.inl (by rw [ef_71]; show (upd _ 1 _ 1).toInt ≠ 0; rw [x_upd_same]; decide), hop, by omega, by omega, rfl⟩, hB57, hB58, hB62, hB63⟩) hP hD hK hS dX12_works_267 hlocks
      · exact absurd c_6 (by decide)
    · exact absurd c_3 (by decide)
  · have kc_2 : i_1.toInt = 1000 := by have h9 := c_2; simp only [ge_iff_le, gt_iff_lt, x_lt, x_le, x_eq, ne_eq, Int32.not_lt, Int32.not_le] at h9; simp only [Int32.reduceToInt] at h9; omega
    refine lv_aload_n hx hb dX12_works_12 rfl (lv_at hl 0 rfl) ?_
    refine va_get (D := D) (ci := 11) (v := .ref (ad 67)) (C := RX12) (T := TX12) (N := 85) hx hb hts inX12 hown hK hP 0 mwd_o0 rfl 67 (by decide) fl154 (fun _ h9 => h9) rfl dX12_works_13 ?_
    refine lv_iload_n hx hb dX12_works_16 rfl (lv_at hl 1 rfl) ?_
    refine lv_iconst (v := 2) hx hb dX12_works_17 (by decide) ?_
    refine va_iast hx hb hK hP hD hS 47 2 mwd_a47 rfl (x_in (by decide) (by decide)) dX12_works_18 (fun H locs hP hD hS => ?_)
    obtain ⟨f_72, ef_72⟩ : ∃ z9 : Nat → Int32, z9 = (upd (σ.2.2.1 67) (Int32.toNatClampNeg 1) 2) := ⟨_, rfl⟩
    have hP : va_P D vwCl (mwd y ad zw (tI σ 67 f_72)) H := by rw [ef_72]; exact x_trP hP mwd_s47
    have hD : va_D A (mwd y ad zw (tI σ 67 f_72)) := by rw [ef_72]; exact x_trD hD mwd_s47
    refine lv_iconst (v := 0) hx hb dX12_works_19 (by decide) ?_
    have hP : va_P D vwCl (mwd y ad zw (tI (tI (tI (tI (tJ (tJ (sJ (sJ (sI (sJ (sJ (sI (tI (tI (tI (tI (sI σ 73 (σ.1 73)) 72 (σ.2.2.1 72)) 63 (σ.2.2.1 63)) 67 f_72) 66 (σ.2.2.1 66)) 44 (σ.1 44)) 42 (σ.2.1 42)) 43 (σ.2.1 43)) 68 (σ.1 68)) 69 (σ.2.1 69)) 70 (σ.2.1 70)) 57 (σ.2.2.2 57)) 58 (σ.2.2.2 58)) 59 (σ.2.2.1 59)) 60 (σ.2.2.1 60)) 61 (σ.2.2.1 61)) 62 (σ.2.2.1 62))) H := hP
    have hD : va_D A (mwd y ad zw (tI (tI (tI (tI (tJ (tJ (sJ (sJ (sI (sJ (sJ (sI (tI (tI (tI (tI (sI σ 73 (σ.1 73)) 72 (σ.2.2.1 72)) 63 (σ.2.2.1 63)) 67 f_72) 66 (σ.2.2.1 66)) 44 (σ.1 44)) 42 (σ.2.1 42)) 43 (σ.2.1 43)) 68 (σ.1 68)) 69 (σ.2.1 69)) 70 (σ.2.1 70)) 57 (σ.2.2.2 57)) 58 (σ.2.2.2 58)) 59 (σ.2.2.1 59)) 60 (σ.2.2.1 60)) 61 (σ.2.2.1 61)) 62 (σ.2.2.1 62))) := hD
    exact x_zretW (v := 0) (u := ((σ.1 73), (σ.2.2.1 72), (σ.2.2.1 63), f_72, (σ.2.2.1 66), (σ.1 44), (σ.2.1 42), (σ.2.1 43), (σ.1 68), (σ.2.1 69), (σ.2.1 70), (σ.2.2.2 57), (σ.2.2.2 58), (σ.2.2.1 59), (σ.2.2.1 60), (σ.2.2.1 61), (σ.2.2.1 62))) hx hb hr hQ rfl (by (try dsimp only); exact ⟨⟨Or.inl (by rw [ef_72]; show (upd _ 1 _ 1).toInt ≠ 0; rw [x_upd_same]; decide), hop, by omega, by omega, rfl⟩, hB57, hB58, hB62, hB63⟩) hP hD hK hS dX12_works_20 hlocks

def v_q_works1_7 : List Cond := .code yX12_works cX12_works 15 (some .boolean) :: ([.fieldLink RX12 142 "SlopeRunnerModel" "steps" "[I", .fieldLink RX12 160 "SlopeRunnerModel" "pile" "[I", .fieldLink RX12 421 "SlopeRunnerModel" "piled" "I", .fieldLink RX12 124 "SlopeRunnerModel" "valueAbove" "[J", .fieldLink RX12 127 "SlopeRunnerModel" "valueBelow" "[J", .fieldLink RX12 384 "SlopeRunnerModel" "isStuck" "Z", .fieldLink RX12 139 "SlopeRunnerModel" "laid" "[I", .fieldLink RX12 154 "SlopeRunnerModel" "state" "[I"] ++ ((wsV RX12 437 RX12 yX12_nears v_q_nears1) ++ ((wsS RX12 380 yX12_size v_q_size) ++ ((wsV RX12 433 RX12 yX12_lays v_q_lays1) ++ wsX120))))
theorem g_q_works1_7_0 : GoodIn v_q_works1_7 (wsV RX12 437 RX12 yX12_nears v_q_nears1) := goodIn_sub (fun w h => List.mem_cons_of_mem _ (List.mem_append_right _ (List.mem_append_left _ h))) (by decide +kernel)
theorem g_q_works1_7_1 : GoodIn v_q_works1_7 (wsS RX12 380 yX12_size v_q_size) := goodIn_sub (fun w h => List.mem_cons_of_mem _ (List.mem_append_right _ (List.mem_append_right _ (List.mem_append_left _ h)))) (by decide +kernel)
theorem g_q_works1_7_2 : GoodIn v_q_works1_7 (wsV RX12 433 RX12 yX12_lays v_q_lays1) := goodIn_sub (fun w h => List.mem_cons_of_mem _ (List.mem_append_right _ (List.mem_append_right _ (List.mem_append_right _ (List.mem_append_left _ h))))) (by decide +kernel)
set_option maxHeartbeats 4000000 in
set_option maxRecDepth 100000 in
theorem q_works1_7 (l : Launch) (D : va_G) (y : Nat → ClassId) (sz : Nat) (ad : Nat → Nat) (zw : Nat → Nat → Int32) (σ : OS) (T : List Bool) (hp : (σ.1 73).toInt = (T.length : Int) + 1) (hT : T.length ≤ 700) (hPT : PT (true :: T) (σ.2.2.1 72) (σ.2.2.1 62 1).toInt) (hop : opc (σ.2.2.1 59) (σ.2.2.1 60) (σ.2.2.1 61)) (hl0 : 0 ≤ (σ.2.2.1 62 1).toInt) (hl1 : (σ.2.2.1 62 1).toInt < 1760) (hB57 : bJ (σ.2.2.2 57) (-1000000000) 1000000000) (hB58 : bJ (σ.2.2.2 58) 0 1000000000) (hB62 : bI (σ.2.2.1 62) 0 1760) (hB63 : bI (σ.2.2.1 63) 0 1000) : Met l yX12_works v_q_works1_7 ({ frames := 1, cells := 0, slots := 0, locals := 31 } : Room) (va_Pc [.ref (ad 1), .int 1, .int 7] (xPre D (xT y) (mwd y ad zw σ) sz)) (va_Qi (fun (r : Int32) (u : Int32 × (Nat → Int32) × (Nat → Int32) × (Nat → Int32) × (Nat → Int32) × Int32 × Int64 × Int64 × Int32 × Int64 × Int64 × (Nat → Int64) × (Nat → Int64) × (Nat → Int32) × (Nat → Int32) × (Nat → Int32) × (Nat → Int32)) => (((u.2.2.2.1 1).toInt ≠ 0 ∨ (u.1.toInt = (T.length : Int) + 1 ∧ PT (true :: T) u.2.1 (u.2.2.2.2.2.2.2.2.2.2.2.2.2.2.2.2 1).toInt ∧ (u.2.2.1 1).toInt = (σ.2.2.1 63 1).toInt + 1 ∧ u.2.2.2.1 = σ.2.2.1 67)) ∧ opc u.2.2.2.2.2.2.2.2.2.2.2.2.2.1 u.2.2.2.2.2.2.2.2.2.2.2.2.2.2.1 u.2.2.2.2.2.2.2.2.2.2.2.2.2.2.2.1 ∧ (σ.2.2.1 62 1).toInt ≤ (u.2.2.2.2.2.2.2.2.2.2.2.2.2.2.2.2 1).toInt ∧ (u.2.2.2.2.2.2.2.2.2.2.2.2.2.2.2.2 1).toInt - (σ.2.2.1 62 1).toInt ≤ (u.2.2.1 1).toInt - (σ.2.2.1 63 1).toInt ∧ u.2.2.2.2.2.2.2.2.2.2.2.2.2.2.2.2 0 = σ.2.2.1 62 0) ∧ bJ u.2.2.2.2.2.2.2.2.2.2.2.1 (-1000000000) 1000000000 ∧ bJ u.2.2.2.2.2.2.2.2.2.2.2.2.1 0 1000000000 ∧ bI u.2.2.2.2.2.2.2.2.2.2.2.2.2.2.2.2 0 1760 ∧ bI u.2.2.1 0 1000) (fun (u : Int32 × (Nat → Int32) × (Nat → Int32) × (Nat → Int32) × (Nat → Int32) × Int32 × Int64 × Int64 × Int32 × Int64 × Int64 × (Nat → Int64) × (Nat → Int64) × (Nat → Int32) × (Nat → Int32) × (Nat → Int32) × (Nat → Int32)) => xB D (xT y) (va_A (mwd y ad zw σ) sz) (mwd y ad zw (tI (tI (tI (tI (tJ (tJ (sJ (sJ (sI (sJ (sJ (sI (tI (tI (tI (tI (sI σ 73 u.1) 72 u.2.1) 63 u.2.2.1) 67 u.2.2.2.1) 66 u.2.2.2.2.1) 44 u.2.2.2.2.2.1) 42 u.2.2.2.2.2.2.1) 43 u.2.2.2.2.2.2.2.1) 68 u.2.2.2.2.2.2.2.2.1) 69 u.2.2.2.2.2.2.2.2.2.1) 70 u.2.2.2.2.2.2.2.2.2.2.1) 57 u.2.2.2.2.2.2.2.2.2.2.2.1) 58 u.2.2.2.2.2.2.2.2.2.2.2.2.1) 59 u.2.2.2.2.2.2.2.2.2.2.2.2.2.1) 60 u.2.2.2.2.2.2.2.2.2.2.2.2.2.2.1) 61 u.2.2.2.2.2.2.2.2.2.2.2.2.2.2.2.1) 62 u.2.2.2.2.2.2.2.2.2.2.2.2.2.2.2.2))) (va_A (mwd y ad zw σ) sz)) 0 0 (va_A (mwd y ad zw σ) sz) := by
  refine x_meti (cc := cX12_works) (maxL := 15) (by decide) rfl (Nat.le_of_ble_eq_true rfl) ?_
  intro p e s m below meth c A H locs Q hx hb hml hown hts hr hlocks hmn hA hP hK hD hS ls hl hQ
  have hl : lv_has ls 15 [(0, .ref (ad 1)), (1, .int 1), (2, .int 7)] := hl
  have fl142 := hts (.fieldLink RX12 142 "SlopeRunnerModel" "steps" "[I") (List.mem_of_getElem? (i := 1) rfl)
  have inX12 : ∀ w ∈ wsX120, w ∈ v_q_works1_7 := (fun w h => List.mem_cons_of_mem _ (List.mem_append_right _ (List.mem_append_right _ (List.mem_append_right _ (List.mem_append_right _ h)))))
  have kk_1000 : (1000 : Int32).toInt = 1000 := rfl
  have fl160 := hts (.fieldLink RX12 160 "SlopeRunnerModel" "pile" "[I") (List.mem_of_getElem? (i := 2) rfl)
  have fl421 := hts (.fieldLink RX12 421 "SlopeRunnerModel" "piled" "I") (List.mem_of_getElem? (i := 3) rfl)
  have kk_1 : (1 : Int32).toInt = 1 := rfl
  have fl124 := hts (.fieldLink RX12 124 "SlopeRunnerModel" "valueAbove" "[J") (List.mem_of_getElem? (i := 4) rfl)
  have kk_1760 : (1760 : Int32).toInt = 1760 := rfl
  have fl127 := hts (.fieldLink RX12 127 "SlopeRunnerModel" "valueBelow" "[J") (List.mem_of_getElem? (i := 5) rfl)
  have fl384 := hts (.fieldLink RX12 384 "SlopeRunnerModel" "isStuck" "Z") (List.mem_of_getElem? (i := 6) rfl)
  have kl_0 : (0 : Int64).toInt = 0 := rfl
  have kl_1 : (1 : Int64).toInt = 1 := rfl
  have kk_7 : (7 : Int32).toInt = 7 := rfl
  have fl139 := hts (.fieldLink RX12 139 "SlopeRunnerModel" "laid" "[I") (List.mem_of_getElem? (i := 7) rfl)
  have fl154 := hts (.fieldLink RX12 154 "SlopeRunnerModel" "state" "[I") (List.mem_of_getElem? (i := 8) rfl)
  have kk_0 : (0 : Int32).toInt = 0 := rfl
  refine lv_aload_n hx hb dX12_works_0 rfl (lv_at hl 0 rfl) ?_
  refine va_get (D := D) (ci := 11) (v := .ref (ad 63)) (C := RX12) (T := TX12) (N := 85) hx hb hts inX12 hown hK hP 0 mwd_o0 rfl 63 (by decide) fl142 (fun _ h9 => h9) rfl dX12_works_1 ?_
  refine lv_iload_n hx hb dX12_works_4 rfl (lv_at hl 1 rfl) ?_
  refine va_iald hx hb hK hP 43 2 mwd_a43 rfl (x_in (by decide) (by decide)) dX12_works_5 ?_
  refine lv_topi (fun i_1 ei_1 => ?_)
  have ei_1 : i_1 = (σ.2.2.1 63) (Int32.toNatClampNeg 1) := ei_1
  have gi_1 : i_1.toInt = (σ.2.2.1 63 1).toInt := by rw [ei_1]; rfl
  have bi_1 := b_at hB63 ei_1
  refine lv_sipush (v := 1000) hx hb dX12_works_6 (by decide) ?_
  refine lv_icmp_ne (tgt := 21) hx hb dX12_works_9 (by decide) (fun c_2 => ?_) (fun c_2 => ?_)
  · have kc_2 : i_1.toInt ≠ 1000 := by have h9 := c_2; simp only [ge_iff_le, gt_iff_lt, x_lt, x_le, x_eq, ne_eq, Int32.not_lt, Int32.not_le] at h9; simp only [Int32.reduceToInt] at h9; omega
    refine lv_iload_n hx hb dX12_works_21 rfl (lv_at hl 2 rfl) ?_
    refine lv_bipush (v := 7) hx hb dX12_works_22 (by decide) ?_
    refine lv_icmp_ne (tgt := 41) hx hb dX12_works_24 (by decide) (fun c_3 => ?_) (fun c_3 => ?_)
    · exact absurd (by decide) c_3
    · refine lv_aload_n hx hb dX12_works_27 rfl (lv_at hl 0 rfl) ?_
      refine va_get (D := D) (ci := 11) (v := .ref (ad 72)) (C := RX12) (T := TX12) (N := 85) hx hb hts inX12 hown hK hP 0 mwd_o0 rfl 72 (by decide) fl160 (fun _ h9 => h9) rfl dX12_works_28 ?_
      refine lv_aload_n hx hb dX12_works_31 rfl (lv_at hl 0 rfl) ?_
      refine va_get (D := D) (ci := 11) (v := .int (σ.1 73)) (C := RX12) (T := TX12) (N := 85) hx hb hts inX12 hown hK hP 0 mwd_o0 rfl 73 (by decide) fl421 (fun _ h9 => h9) rfl dX12_works_32 ?_
      refine lv_iconst (v := 1) hx hb dX12_works_35 (by decide) ?_
      refine lv_isub hx hb dX12_works_36 ?_
      refine lv_topi (fun i_4 ei_4 => ?_)
      have vi_4 : i_4.toInt = (σ.1 73).toInt - 1 := by have h9 := x_sub ei_4 (by omega) (by omega); omega
      refine va_iald hx hb hK hP 49 2 mwd_a49 rfl (x_in (by omega) (by omega)) dX12_works_37 ?_
      refine lv_topi (fun i_5 ei_5 => ?_)
      have ei_5 : i_5 = (σ.2.2.1 72) (Int32.toNatClampNeg i_4) := ei_5
      have gi_5 := PT_N hPT ei_5 (x_cl (by omega))
      refine lv_goto (tgt := 52) hx hb dX12_works_38 (by decide) ?_
      refine lv_istore_n (lv' := [(3, .int i_5), (0, .ref (ad 1)), (1, .int 1), (2, .int 7)]) hx hb dX12_works_52 rfl hl (by decide) rfl (fun ls hl => ?_)
      refine lv_iload_n hx hb dX12_works_53 rfl (lv_at hl 3 rfl) ?_
      refine lv_bipush (v := 7) hx hb dX12_works_54 (by decide) ?_
      refine lv_icmp_ne (tgt := 63) hx hb dX12_works_56 (by decide) (fun c_6 => ?_) (fun c_6 => ?_)
      · exact absurd (by decide) c_6
      · refine lv_iload_n hx hb dX12_works_59 rfl (lv_at hl 0 rfl) ?_
        refine lv_goto (tgt := 74) hx hb dX12_works_60 (by decide) ?_
        refine lv_istore (lv' := [(4, .int i_5), (3, .int i_5), (0, .ref (ad 1)), (1, .int 1), (2, .int 7)]) hx hb dX12_works_74 hl (by decide) rfl (fun ls hl => ?_)
        refine lv_aload_n hx hb dX12_works_76 rfl (lv_at hl 2 rfl) ?_
        refine va_get (D := D) (ci := 11) (v := .ref (ad 57)) (C := RX12) (T := TX12) (N := 85) hx hb hts inX12 hown hK hP 0 mwd_o0 rfl 57 (by decide) fl124 (fun _ h9 => h9) rfl dX12_works_77 ?_
        refine lv_sipush (v := 1760) hx hb dX12_works_80 (by decide) ?_
        refine lv_iload_n hx hb dX12_works_83 rfl (lv_at hl 3 rfl) ?_
        refine lv_imul hx hb dX12_works_84 ?_
        refine lv_topi (fun i_7 ei_7 => ?_)
        obtain rfl : i_7 = 1760 := ei_7.trans (by decide)
        refine lv_iload hx hb dX12_works_85 (lv_at hl 0 rfl) ?_
        refine lv_iadd hx hb dX12_works_87 ?_
        refine lv_topi (fun i_8 ei_8 => ?_)
        have vi_8 : i_8.toInt = 1760 + i_5.toInt := by have h9 := x_add ei_8 (by omega) (by omega); omega
        refine va_lald hx hb hK hP 37 3 mwd_a37 rfl (x_in (by omega) (by omega)) dX12_works_88 ?_
        refine lv_topl (fun j_9 ej_9 => ?_)
        have ej_9 : j_9 = (σ.2.2.2 57) (Int32.toNatClampNeg i_8) := ej_9
        have bj_9 := b_atJ hB57 ej_9
        refine lv_lstore (lv' := [(5, .long j_9), (4, .int i_5), (3, .int i_5), (0, .ref (ad 1)), (1, .int 1), (2, .int 7)]) hx hb dX12_works_89 hl (by decide) rfl (fun ls hl => ?_)
        refine lv_aload_n hx hb dX12_works_91 rfl (lv_at hl 3 rfl) ?_
        refine va_get (D := D) (ci := 11) (v := .ref (ad 58)) (C := RX12) (T := TX12) (N := 85) hx hb hts inX12 hown hK hP 0 mwd_o0 rfl 58 (by decide) fl127 (fun _ h9 => h9) rfl dX12_works_92 ?_
        refine lv_sipush (v := 1760) hx hb dX12_works_95 (by decide) ?_
        refine lv_iload_n hx hb dX12_works_98 rfl (lv_at hl 4 rfl) ?_
        refine lv_imul hx hb dX12_works_99 ?_
        refine lv_topi (fun i_10 ei_10 => ?_)
        obtain rfl : i_10 = 1760 := ei_10.trans (by decide)
        refine lv_iload hx hb dX12_works_100 (lv_at hl 1 rfl) ?_
        refine lv_iadd hx hb dX12_works_102 ?_
        refine lv_topi (fun i_11 ei_11 => ?_)
        have vi_11 : i_11.toInt = 1760 + i_5.toInt := by have h9 := x_add ei_11 (by omega) (by omega); omega
        refine va_lald hx hb hK hP 38 3 mwd_a38 rfl (x_in (by omega) (by omega)) dX12_works_103 ?_
        refine lv_topl (fun j_12 ej_12 => ?_)
        have ej_12 : j_12 = (σ.2.2.2 58) (Int32.toNatClampNeg i_11) := ej_12
        have bj_12 := b_atJ hB58 ej_12
        refine lv_lstore (lv' := [(7, .long j_12), (5, .long j_9), (4, .int i_5), (3, .int i_5), (0, .ref (ad 1)), (1, .int 1), (2, .int 7)]) hx hb dX12_works_104 hl (by decide) rfl (fun ls hl => ?_)
        refine lv_aload_n hx hb dX12_works_106 rfl (lv_at hl 4 rfl) ?_
        refine va_get (D := D) (ci := 11) (v := .ref (ad 57)) (C := RX12) (T := TX12) (N := 85) hx hb hts inX12 hown hK hP 0 mwd_o0 rfl 57 (by decide) fl124 (fun _ h9 => h9) rfl dX12_works_107 ?_
        refine lv_sipush (v := 1760) hx hb dX12_works_110 (by decide) ?_
        refine lv_iload_n hx hb dX12_works_113 rfl (lv_at hl 5 rfl) ?_
        refine lv_imul hx hb dX12_works_114 ?_
        refine lv_topi (fun i_13 ei_13 => ?_)
        obtain rfl : i_13 = 1760 := ei_13.trans (by decide)
        refine lv_iload_n hx hb dX12_works_115 rfl (lv_at hl 3 rfl) ?_
        refine lv_iadd hx hb dX12_works_116 ?_
        refine lv_topi (fun i_14 ei_14 => ?_)
        have vi_14 : i_14.toInt = 1760 + i_5.toInt := by have h9 := x_add ei_14 (by omega) (by omega); omega
        refine va_lald hx hb hK hP 37 3 mwd_a37 rfl (x_in (by omega) (by omega)) dX12_works_117 ?_
        refine lv_topl (fun j_15 ej_15 => ?_)
        have ej_15 : j_15 = (σ.2.2.2 57) (Int32.toNatClampNeg i_14) := ej_15
        have bj_15 := b_atJ hB57 ej_15
        refine lv_lstore (lv' := [(9, .long j_15), (7, .long j_12), (5, .long j_9), (4, .int i_5), (3, .int i_5), (0, .ref (ad 1)), (1, .int 1), (2, .int 7)]) hx hb dX12_works_118 hl (by decide) rfl (fun ls hl => ?_)
        refine lv_aload_n hx hb dX12_works_120 rfl (lv_at hl 5 rfl) ?_
        refine va_get (D := D) (ci := 11) (v := .ref (ad 58)) (C := RX12) (T := TX12) (N := 85) hx hb hts inX12 hown hK hP 0 mwd_o0 rfl 58 (by decide) fl127 (fun _ h9 => h9) rfl dX12_works_121 ?_
        refine lv_sipush (v := 1760) hx hb dX12_works_124 (by decide) ?_
        refine lv_iload_n hx hb dX12_works_127 rfl (lv_at hl 6 rfl) ?_
        refine lv_imul hx hb dX12_works_128 ?_
        refine lv_topi (fun i_16 ei_16 => ?_)
        obtain rfl : i_16 = 1760 := ei_16.trans (by decide)
        refine lv_iload_n hx hb dX12_works_129 rfl (lv_at hl 4 rfl) ?_
        refine lv_iadd hx hb dX12_works_130 ?_
        refine lv_topi (fun i_17 ei_17 => ?_)
        have vi_17 : i_17.toInt = 1760 + i_5.toInt := by have h9 := x_add ei_17 (by omega) (by omega); omega
        refine va_lald hx hb hK hP 38 3 mwd_a38 rfl (x_in (by omega) (by omega)) dX12_works_131 ?_
        refine lv_topl (fun j_18 ej_18 => ?_)
        have ej_18 : j_18 = (σ.2.2.2 58) (Int32.toNatClampNeg i_17) := ej_18
        have bj_18 := b_atJ hB58 ej_18
        refine lv_lstore (lv' := [(11, .long j_18), (9, .long j_15), (7, .long j_12), (5, .long j_9), (4, .int i_5), (3, .int i_5), (0, .ref (ad 1)), (1, .int 1), (2, .int 7)]) hx hb dX12_works_132 hl (by decide) rfl (fun ls hl => ?_)
        refine lv_lload hx hb dX12_works_134 (lv_at hl 3 rfl) ?_
        refine lv_lload hx hb dX12_works_136 (lv_at hl 0 rfl) ?_
        refine lv_lmul hx hb dX12_works_138 ?_
        refine lv_topl (fun j_19 ej_19 => ?_)
        have vj_19 := x_mulB ej_19 (by omega) (by omega) (by omega) (by omega)
        refine lv_lload hx hb dX12_works_139 (lv_at hl 1 rfl) ?_
        refine lv_lload hx hb dX12_works_141 (lv_at hl 2 rfl) ?_
        refine lv_lmul hx hb dX12_works_143 ?_
        refine lv_topl (fun j_20 ej_20 => ?_)
        have vj_20 := x_mulB ej_20 (by omega) (by omega) (by omega) (by omega)
        refine W.lcmp hx hb dX12_works_144 ?_
        refine lv_if_ge (tgt := 152) hx hb dX12_works_145 (by decide) (fun c_21 => ?_) (fun c_21 => ?_)
        · have kc_21 : j_19.toInt ≥ j_20.toInt := by have h9 := x_tri j_19 j_20; (try simp only [Int64.reduceToInt] at h9); rcases h9 with ⟨g1, g2⟩ | ⟨g1, g2⟩ | ⟨g1, g2⟩ <;> first | omega | (exfalso; rw [g1] at c_21; revert c_21; decide)
          refine lv_iconst (v := 0) hx hb dX12_works_152 (by decide) ?_
          refine lv_istore (lv' := [(13, .int 0), (11, .long j_18), (9, .long j_15), (7, .long j_12), (5, .long j_9), (4, .int i_5), (3, .int i_5), (0, .ref (ad 1)), (1, .int 1), (2, .int 7)]) hx hb dX12_works_153 hl (by decide) rfl (fun ls hl => ?_)
          refine lv_aload_n hx hb dX12_works_155 rfl (lv_at hl 7 rfl) ?_
          refine lv_iconst (v := 0) hx hb dX12_works_156 (by decide) ?_
          refine va_put (D := D) (ci := 11) (v := .int 0) (ty := .boolean) (C := RX12) (T := TX12) (N := 85) hx hb hts inX12 tyX12 tyX12_ok nmX12 hown hK hP hD hS 0 mwd_o0 rfl 44 (by decide) fl384 (fun _ h9 => h9) rfl (by decide +kernel) rfl rfl (Nat.le_of_ble_eq_true rfl) dX12_works_157 (fun H locs hP hD hS => ?_)
          have hP : va_P D vwCl (mwd y ad zw (sI σ 44 0)) H := x_trP hP mwd_p0_44
          have hD : va_D A (mwd y ad zw (sI σ 44 0)) := x_trD hD mwd_p0_44
          refine lv_iload_n hx hb dX12_works_160 rfl (lv_at hl 9 rfl) ?_
          refine lv_tableOut (tgt := 252) hx hb dX12_works_161 (by decide) (by decide) ?_
          refine lv_aload_n hx hb dX12_works_252 rfl (lv_at hl 7 rfl) ?_
          refine va_get (D := D) (ci := 11) (v := .int 0) (C := RX12) (T := TX12) (N := 85) hx hb hts inX12 hown hK hP 0 mwd_o0 rfl 44 (by decide) fl384 (fun _ h9 => h9) rfl dX12_works_253 ?_
          refine lv_if_eq (tgt := 268) hx hb dX12_works_256 (by decide) (fun c_23 => ?_) (fun c_23 => ?_)
          · refine lv_aload_n hx hb dX12_works_268 rfl (lv_at hl 7 rfl) ?_
            refine va_get (D := D) (ci := 11) (v := .ref (ad 63)) (C := RX12) (T := TX12) (N := 85) hx hb hts inX12 hown hK hP 0 mwd_o0 rfl 63 (by decide) fl142 (fun _ h9 => h9) rfl dX12_works_269 ?_
            refine lv_iload_n hx hb dX12_works_272 rfl (lv_at hl 8 rfl) ?_
            refine lv_dup2_11 hx hb dX12_works_273 rfl rfl ?_
            refine va_iald hx hb hK hP 43 2 mwd_a43 rfl (x_in (by decide) (by decide)) dX12_works_274 ?_
            refine lv_topi (fun i_24 ei_24 => ?_)
            have ei_24 : i_24 = (σ.2.2.1 63) (Int32.toNatClampNeg 1) := ei_24
            have gi_24 : i_24.toInt = (σ.2.2.1 63 1).toInt := by rw [ei_24]; rfl
            have bi_24 := b_at hB63 ei_24
            refine lv_iconst (v := 1) hx hb dX12_works_275 (by decide) ?_
            refine lv_iadd hx hb dX12_works_276 ?_
            refine lv_topi (fun i_25 ei_25 => ?_)
            have vi_25 : i_25.toInt = i_24.toInt + 1 := by have h9 := x_add ei_25 (by omega) (by omega); omega
            refine va_iast hx hb hK hP hD hS 43 2 mwd_a43 rfl (x_in (by decide) (by decide)) dX12_works_277 (fun H locs hP hD hS => ?_)
            obtain ⟨f_26, ef_26⟩ : ∃ z9 : Nat → Int32, z9 = (upd (σ.2.2.1 63) (Int32.toNatClampNeg 1) i_25) := ⟨_, rfl⟩
            have hP : va_P D vwCl (mwd y ad zw (tI (sI σ 44 0) 63 f_26)) H := by rw [ef_26]; exact x_trP hP mwd_s43
            have hD : va_D A (mwd y ad zw (tI (sI σ 44 0) 63 f_26)) := by rw [ef_26]; exact x_trD hD mwd_s43
            have hvf_26 : bI f_26 0 1000 := by rw [ef_26]; exact b_upd hB63 (by omega) (by omega)
            have sf_26 : (f_26 1).toInt = i_25.toInt := by rw [ef_26]; exact congrArg Int32.toInt (x_upd_same _ 1 _)
            refine lv_aload_n hx hb dX12_works_278 rfl (lv_at hl 7 rfl) ?_
            refine lv_dup hx hb dX12_works_279 rfl ?_
            refine va_get (D := D) (ci := 11) (v := .int (σ.1 73)) (C := RX12) (T := TX12) (N := 85) hx hb hts inX12 hown hK hP 0 mwd_o0 rfl 73 (by decide) fl421 (fun _ h9 => h9) rfl dX12_works_280 ?_
            refine lv_iload_n hx hb dX12_works_283 rfl (lv_at hl 9 rfl) ?_
            refine lv_bipush (v := 7) hx hb dX12_works_284 (by decide) ?_
            refine lv_icmp_ne (tgt := 293) hx hb dX12_works_286 (by decide) (fun c_27 => ?_) (fun c_27 => ?_)
            · exact absurd (by decide) c_27
            · refine lv_iconst (v := 1) hx hb dX12_works_289 (by decide) ?_
              refine lv_goto (tgt := 294) hx hb dX12_works_290 (by decide) ?_
              refine lv_isub hx hb dX12_works_294 ?_
              refine lv_topi (fun i_28 ei_28 => ?_)
              have vi_28 : i_28.toInt = (σ.1 73).toInt - 1 := by have h9 := x_sub ei_28 (by omega) (by omega); omega
              refine va_put (D := D) (ci := 11) (v := .int i_28) (ty := .int) (C := RX12) (T := TX12) (N := 85) hx hb hts inX12 tyX12 tyX12_ok nmX12 hown hK hP hD hS 0 mwd_o0 rfl 73 (by decide) fl421 (fun _ h9 => h9) rfl (by decide +kernel) rfl rfl (Nat.le_of_ble_eq_true rfl) dX12_works_295 (fun H locs hP hD hS => ?_)
              have hP : va_P D vwCl (mwd y ad zw (sI (tI (sI σ 44 0) 63 f_26) 73 i_28)) H := x_trP hP mwd_p0_73
              have hD : va_D A (mwd y ad zw (sI (tI (sI σ 44 0) 63 f_26) 73 i_28)) := x_trD hD mwd_p0_73
              refine lv_iload_n hx hb dX12_works_298 rfl (lv_at hl 9 rfl) ?_
              refine lv_iconst (v := 4) hx hb dX12_works_299 (by decide) ?_
              refine lv_icmp_gt (tgt := 340) hx hb dX12_works_300 (by decide) (fun c_29 => ?_) (fun c_29 => ?_)
              · refine lv_iload_n hx hb dX12_works_340 rfl (lv_at hl 9 rfl) ?_
                refine lv_bipush (v := 7) hx hb dX12_works_341 (by decide) ?_
                refine lv_icmp_ne (tgt := 394) hx hb dX12_works_343 (by decide) (fun c_30 => ?_) (fun c_30 => ?_)
                · exact absurd (by decide) c_30
                · refine lv_aload_n hx hb dX12_works_346 rfl (lv_at hl 7 rfl) ?_
                  refine lv_iload_n hx hb dX12_works_347 rfl (lv_at hl 8 rfl) ?_
                  refine lv_lload hx hb dX12_works_348 (lv_at hl 4 rfl) ?_
                  refine lv_lload hx hb dX12_works_350 (lv_at hl 3 rfl) ?_
                  refine lv_lconst (v := 0) hx hb dX12_works_352 (by decide) ?_
                  refine lv_lconst (v := 1) hx hb dX12_works_353 (by decide) ?_
                  refine x_callvW (va_runV (As := [.int 1, .long j_9, .long j_12, .long 0, .long 1]) (rest := []) ⟨hx, hb, hml, hown, hts⟩ (q_nears1 l D y H.size ad zw (sI (tI (sI σ 44 0) 63 f_26) 73 i_28) j_9 j_12 0 1 (by first | omega | decide) (by first | omega | decide) (by first | omega | decide) (by first | omega | decide) (by first | omega | decide) (by first | omega | decide) (by first | omega | decide) (by first | omega | decide)) (cwV 5 hts g_q_works1_7_0 rfl rfl rfl (by decide +kernel) ⟨Nat.le_of_ble_eq_true rfl, Nat.le_of_ble_eq_true rfl⟩) (x_preV (q := (RX12, TX12, 85)) hK hP hD (ci := 11) (q0 := 0) rfl mwd_o0) rfl rfl hl.1 rfl (lv_room (Nat.le_of_ble_eq_true rfl)) dX12_works_354 ⟨Nat.le_of_ble_eq_true rfl, Nat.le_of_ble_eq_true rfl⟩) hP hD hS hA (fun u H locs hw hP hD hS => ?_)
                  obtain ⟨f_31, n_32, j_33, j_34, n_35, j_36, j_37⟩ := u
                  try dsimp only at hw
                  have hP : va_P D vwCl (mwd y ad zw (sJ (sJ (sI (sJ (sJ (sI (tI (sI (tI (sI σ 44 0) 63 f_26) 73 i_28) 66 f_31) 44 n_32) 42 j_33) 43 j_34) 68 n_35) 69 j_36) 70 j_37)) H := hP
                  have hD : va_D A (mwd y ad zw (sJ (sJ (sI (sJ (sJ (sI (tI (sI (tI (sI σ 44 0) 63 f_26) 73 i_28) 66 f_31) 44 n_32) 42 j_33) 43 j_34) 68 n_35) 69 j_36) 70 j_37)) := hD
                  have hw : True := hw
                  refine lv_aload_n hx hb dX12_works_357 rfl (lv_at hl 7 rfl) ?_
                  refine lv_iload_n hx hb dX12_works_358 rfl (lv_at hl 8 rfl) ?_
                  refine lv_lload hx hb dX12_works_359 (lv_at hl 4 rfl) ?_
                  refine x_calllN (va_runS (As := [.long j_9]) (rest := [.int 1, .ref (ad 1)]) ⟨hx, hb, hml, hown, hts⟩ (q_size l D y H.size j_9 (by first | omega | decide)) (cwS 1 hts g_q_works1_7_1 rfl rfl rfl (by decide +kernel) ⟨Nat.le_of_ble_eq_true rfl, Nat.le_of_ble_eq_true rfl⟩) (x_preS hK (x_nilP D H) (x_nilD A)) rfl rfl hl.1 rfl (lv_room (Nat.le_of_ble_eq_true rfl)) dX12_works_361 ⟨Nat.le_of_ble_eq_true rfl, Nat.le_of_ble_eq_true rfl⟩) hP hD hS hA (fun r_38 u H locs hw hP hD hS => ?_)
                  try dsimp only at hw
                  refine lv_lload hx hb dX12_works_364 (lv_at hl 3 rfl) ?_
                  refine lv_iload_n hx hb dX12_works_366 rfl (lv_at hl 9 rfl) ?_
                  refine lv_iload hx hb dX12_works_367 (lv_at hl 5 rfl) ?_
                  refine lv_iload hx hb dX12_works_369 (lv_at hl 5 rfl) ?_
                  refine x_callvW (va_runV (As := [.int 1, .long r_38, .long j_12, .int 7, .int i_5, .int i_5]) (rest := []) ⟨hx, hb, hml, hown, hts⟩ (q_lays1 l D y H.size ad zw (sJ (sJ (sI (sJ (sJ (sI (tI (sI (tI (sI σ 44 0) 63 f_26) 73 i_28) 66 f_31) 44 n_32) 42 j_33) 43 j_34) 68 n_35) 69 j_36) 70 j_37) r_38 j_12 7 i_5 i_5 (by first | omega | decide) (by first | omega | decide) (by first | omega | decide) (by first | omega | decide) hop (fun _ => by omega) (show 0 ≤ ((σ.2.2.1 62) 1).toInt from by first | omega | decide) (show ((σ.2.2.1 62) 1).toInt < 1760 from by first | omega | decide) hB57 hB58 hB62) (cwV 6 hts g_q_works1_7_2 rfl rfl rfl (by decide +kernel) ⟨Nat.le_of_ble_eq_true rfl, Nat.le_of_ble_eq_true rfl⟩) (x_preV (q := (RX12, TX12, 85)) hK hP hD (ci := 11) (q0 := 0) rfl mwd_o0) rfl rfl hl.1 rfl (lv_room (Nat.le_of_ble_eq_true rfl)) dX12_works_371 ⟨Nat.le_of_ble_eq_true rfl, Nat.le_of_ble_eq_true rfl⟩) hP hD hS hA (fun u H locs hw hP hD hS => ?_)
                  obtain ⟨f_39, f_40, f_41, f_42, f_43, f_44⟩ := u
                  try dsimp only at hw
                  have hP : va_P D vwCl (mwd y ad zw (tI (tI (tI (tI (tJ (tJ (sJ (sJ (sI (sJ (sJ (sI (tI (sI (tI (sI σ 44 0) 63 f_26) 73 i_28) 66 f_31) 44 n_32) 42 j_33) 43 j_34) 68 n_35) 69 j_36) 70 j_37) 57 f_39) 58 f_40) 59 f_41) 60 f_42) 61 f_43) 62 f_44)) H := hP
                  have hD : va_D A (mwd y ad zw (tI (tI (tI (tI (tJ (tJ (sJ (sJ (sI (sJ (sJ (sI (tI (sI (tI (sI σ 44 0) 63 f_26) 73 i_28) 66 f_31) 44 n_32) 42 j_33) 43 j_34) 68 n_35) 69 j_36) 70 j_37) 57 f_39) 58 f_40) 59 f_41) 60 f_42) 61 f_43) 62 f_44)) := hD
                  have hw : (opc f_41 f_42 f_43 ∧ (f_44 1).toInt = ((σ.2.2.1 62) 1).toInt + 1 ∧ f_44 0 = (σ.2.2.1 62) 0) ∧ bJ f_39 (-1000000000) 1000000000 ∧ bJ f_40 0 1000000000 ∧ bI f_44 0 1760 := hw
                  obtain ⟨hw, hg_45, hg_46, hg_47⟩ := hw
                  obtain ⟨ho9, hl9, hl8⟩ := hw
                  refine lv_aload_n hx hb dX12_works_374 rfl (lv_at hl 7 rfl) ?_
                  refine va_get (D := D) (ci := 11) (v := .ref (ad 72)) (C := RX12) (T := TX12) (N := 85) hx hb hts inX12 hown hK hP 0 mwd_o0 rfl 72 (by decide) fl160 (fun _ h9 => h9) rfl dX12_works_375 ?_
                  refine lv_aload_n hx hb dX12_works_378 rfl (lv_at hl 7 rfl) ?_
                  refine va_get (D := D) (ci := 11) (v := .int i_28) (C := RX12) (T := TX12) (N := 85) hx hb hts inX12 hown hK hP 0 mwd_o0 rfl 73 (by decide) fl421 (fun _ h9 => h9) rfl dX12_works_379 ?_
                  refine lv_aload_n hx hb dX12_works_382 rfl (lv_at hl 7 rfl) ?_
                  refine va_get (D := D) (ci := 11) (v := .ref (ad 62)) (C := RX12) (T := TX12) (N := 85) hx hb hts inX12 hown hK hP 0 mwd_o0 rfl 62 (by decide) fl139 (fun _ h9 => h9) rfl dX12_works_383 ?_
                  refine lv_iload_n hx hb dX12_works_386 rfl (lv_at hl 8 rfl) ?_
                  refine va_iald hx hb hK hP 42 2 mwd_a42 rfl (x_in (by decide) (by decide)) dX12_works_387 ?_
                  refine lv_topi (fun i_48 ei_48 => ?_)
                  have ei_48 : i_48 = f_44 (Int32.toNatClampNeg 1) := ei_48
                  have gi_48 : i_48.toInt = (f_44 1).toInt := by rw [ei_48]; rfl
                  have bi_48 := b_at hg_47 ei_48
                  refine lv_iconst (v := 1) hx hb dX12_works_388 (by decide) ?_
                  refine lv_isub hx hb dX12_works_389 ?_
                  refine lv_topi (fun i_49 ei_49 => ?_)
                  have vi_49 : i_49.toInt = i_48.toInt - 1 := by have h9 := x_sub ei_49 (by omega) (by omega); omega
                  refine va_iast hx hb hK hP hD hS 49 2 mwd_a49 rfl (x_in (by omega) (by omega)) dX12_works_390 (fun H locs hP hD hS => ?_)
                  obtain ⟨f_50, ef_50⟩ : ∃ z9 : Nat → Int32, z9 = (upd (σ.2.2.1 72) (Int32.toNatClampNeg i_28) i_49) := ⟨_, rfl⟩
                  have hP : va_P D vwCl (mwd y ad zw (tI (tI (tI (tI (tI (tJ (tJ (sJ (sJ (sI (sJ (sJ (sI (tI (sI (tI (sI σ 44 0) 63 f_26) 73 i_28) 66 f_31) 44 n_32) 42 j_33) 43 j_34) 68 n_35) 69 j_36) 70 j_37) 57 f_39) 58 f_40) 59 f_41) 60 f_42) 61 f_43) 62 f_44) 72 f_50)) H := by rw [ef_50]; exact x_trP hP mwd_s49
                  have hD : va_D A (mwd y ad zw (tI (tI (tI (tI (tI (tJ (tJ (sJ (sJ (sI (sJ (sJ (sI (tI (sI (tI (sI σ 44 0) 63 f_26) 73 i_28) 66 f_31) 44 n_32) 42 j_33) 43 j_34) 68 n_35) 69 j_36) 70 j_37) 57 f_39) 58 f_40) 59 f_41) 60 f_42) 61 f_43) 62 f_44) 72 f_50)) := by rw [ef_50]; exact x_trD hD mwd_s49
                  have pf_50 : PT (true :: T) f_50 (f_44 1).toInt := by rw [ef_50]; exact PT_pushN (PT_mono (by omega) hPT.2) (x_cl (by omega)) (by omega) (by omega)
                  refine lv_goto (tgt := 626) hx hb dX12_works_391 (by decide) ?_
                  refine lv_aload_n hx hb dX12_works_626 rfl (lv_at hl 7 rfl) ?_
                  refine lv_dup hx hb dX12_works_627 rfl ?_
                  refine va_get (D := D) (ci := 11) (v := .int i_28) (C := RX12) (T := TX12) (N := 85) hx hb hts inX12 hown hK hP 0 mwd_o0 rfl 73 (by decide) fl421 (fun _ h9 => h9) rfl dX12_works_628 ?_
                  refine lv_iconst (v := 1) hx hb dX12_works_631 (by decide) ?_
                  refine lv_iadd hx hb dX12_works_632 ?_
                  refine lv_topi (fun i_51 ei_51 => ?_)
                  have vi_51 : i_51.toInt = i_28.toInt + 1 := by have h9 := x_add ei_51 (by omega) (by omega); omega
                  refine va_put (D := D) (ci := 11) (v := .int i_51) (ty := .int) (C := RX12) (T := TX12) (N := 85) hx hb hts inX12 tyX12 tyX12_ok nmX12 hown hK hP hD hS 0 mwd_o0 rfl 73 (by decide) fl421 (fun _ h9 => h9) rfl (by decide +kernel) rfl rfl (Nat.le_of_ble_eq_true rfl) dX12_works_633 (fun H locs hP hD hS => ?_)
                  have hP : va_P D vwCl (mwd y ad zw (sI (tI (tI (tI (tI (tI (tJ (tJ (sJ (sJ (sI (sJ (sJ (sI (tI (sI (tI (sI σ 44 0) 63 f_26) 73 i_28) 66 f_31) 44 n_32) 42 j_33) 43 j_34) 68 n_35) 69 j_36) 70 j_37) 57 f_39) 58 f_40) 59 f_41) 60 f_42) 61 f_43) 62 f_44) 72 f_50) 73 i_51)) H := x_trP hP mwd_p0_73
                  have hD : va_D A (mwd y ad zw (sI (tI (tI (tI (tI (tI (tJ (tJ (sJ (sJ (sI (sJ (sJ (sI (tI (sI (tI (sI σ 44 0) 63 f_26) 73 i_28) 66 f_31) 44 n_32) 42 j_33) 43 j_34) 68 n_35) 69 j_36) 70 j_37) 57 f_39) 58 f_40) 59 f_41) 60 f_42) 61 f_43) 62 f_44) 72 f_50) 73 i_51)) := x_trD hD mwd_p0_73
                  refine lv_iconst (v := 1) hx hb dX12_works_636 (by decide) ?_
                  have hP : va_P D vwCl (mwd y ad zw (tI (tI (tI (tI (tJ (tJ (sJ (sJ (sI (sJ (sJ (sI (tI (tI (tI (tI (sI σ 73 i_51) 72 f_50) 63 f_26) 67 (σ.2.2.1 67)) 66 f_31) 44 n_32) 42 j_33) 43 j_34) 68 n_35) 69 j_36) 70 j_37) 57 f_39) 58 f_40) 59 f_41) 60 f_42) 61 f_43) 62 f_44)) H := hP
                  have hD : va_D A (mwd y ad zw (tI (tI (tI (tI (tJ (tJ (sJ (sJ (sI (sJ (sJ (sI (tI (tI (tI (tI (sI σ 73 i_51) 72 f_50) 63 f_26) 67 (σ.2.2.1 67)) 66 f_31) 44 n_32) 42 j_33) 43 j_34) 68 n_35) 69 j_36) 70 j_37) 57 f_39) 58 f_40) 59 f_41) 60 f_42) 61 f_43) 62 f_44)) := hD
                  exact x_zretW (v := 1) (u := (i_51, f_50, f_26, (σ.2.2.1 67), f_31, n_32, j_33, j_34, n_35, j_36, j_37, f_39, f_40, f_41, f_42, f_43, f_44)) hx hb hr hQ rfl (by (try dsimp only); exact ⟨⟨Or.inr ⟨by omega, pf_50, by omega, rfl⟩, ho9, by omega, by omega, hl8⟩, hg_45, hg_46, hg_47, hvf_26⟩) hP hD hK hS dX12_works_637 hlocks
              · exact absurd (by decide) c_29
          · exact absurd (by decide) c_23
        · have kc_21 : j_19.toInt < j_20.toInt := by have h9 := x_tri j_19 j_20; (try simp only [Int64.reduceToInt] at h9); rcases h9 with ⟨g1, g2⟩ | ⟨g1, g2⟩ | ⟨g1, g2⟩ <;> first | omega | (exfalso; rw [g1] at c_21; revert c_21; decide)
          refine lv_iconst (v := 1) hx hb dX12_works_148 (by decide) ?_
          refine lv_goto (tgt := 153) hx hb dX12_works_149 (by decide) ?_
          refine lv_istore (lv' := [(13, .int 1), (11, .long j_18), (9, .long j_15), (7, .long j_12), (5, .long j_9), (4, .int i_5), (3, .int i_5), (0, .ref (ad 1)), (1, .int 1), (2, .int 7)]) hx hb dX12_works_153 hl (by decide) rfl (fun ls hl => ?_)
          refine lv_aload_n hx hb dX12_works_155 rfl (lv_at hl 7 rfl) ?_
          refine lv_iconst (v := 0) hx hb dX12_works_156 (by decide) ?_
          refine va_put (D := D) (ci := 11) (v := .int 0) (ty := .boolean) (C := RX12) (T := TX12) (N := 85) hx hb hts inX12 tyX12 tyX12_ok nmX12 hown hK hP hD hS 0 mwd_o0 rfl 44 (by decide) fl384 (fun _ h9 => h9) rfl (by decide +kernel) rfl rfl (Nat.le_of_ble_eq_true rfl) dX12_works_157 (fun H locs hP hD hS => ?_)
          have hP : va_P D vwCl (mwd y ad zw (sI σ 44 0)) H := x_trP hP mwd_p0_44
          have hD : va_D A (mwd y ad zw (sI σ 44 0)) := x_trD hD mwd_p0_44
          refine lv_iload_n hx hb dX12_works_160 rfl (lv_at hl 9 rfl) ?_
          refine lv_tableOut (tgt := 252) hx hb dX12_works_161 (by decide) (by decide) ?_
          refine lv_aload_n hx hb dX12_works_252 rfl (lv_at hl 7 rfl) ?_
          refine va_get (D := D) (ci := 11) (v := .int 0) (C := RX12) (T := TX12) (N := 85) hx hb hts inX12 hown hK hP 0 mwd_o0 rfl 44 (by decide) fl384 (fun _ h9 => h9) rfl dX12_works_253 ?_
          refine lv_if_eq (tgt := 268) hx hb dX12_works_256 (by decide) (fun c_53 => ?_) (fun c_53 => ?_)
          · refine lv_aload_n hx hb dX12_works_268 rfl (lv_at hl 7 rfl) ?_
            refine va_get (D := D) (ci := 11) (v := .ref (ad 63)) (C := RX12) (T := TX12) (N := 85) hx hb hts inX12 hown hK hP 0 mwd_o0 rfl 63 (by decide) fl142 (fun _ h9 => h9) rfl dX12_works_269 ?_
            refine lv_iload_n hx hb dX12_works_272 rfl (lv_at hl 8 rfl) ?_
            refine lv_dup2_11 hx hb dX12_works_273 rfl rfl ?_
            refine va_iald hx hb hK hP 43 2 mwd_a43 rfl (x_in (by decide) (by decide)) dX12_works_274 ?_
            refine lv_topi (fun i_54 ei_54 => ?_)
            have ei_54 : i_54 = (σ.2.2.1 63) (Int32.toNatClampNeg 1) := ei_54
            have gi_54 : i_54.toInt = (σ.2.2.1 63 1).toInt := by rw [ei_54]; rfl
            have bi_54 := b_at hB63 ei_54
            refine lv_iconst (v := 1) hx hb dX12_works_275 (by decide) ?_
            refine lv_iadd hx hb dX12_works_276 ?_
            refine lv_topi (fun i_55 ei_55 => ?_)
            have vi_55 : i_55.toInt = i_54.toInt + 1 := by have h9 := x_add ei_55 (by omega) (by omega); omega
            refine va_iast hx hb hK hP hD hS 43 2 mwd_a43 rfl (x_in (by decide) (by decide)) dX12_works_277 (fun H locs hP hD hS => ?_)
            obtain ⟨f_56, ef_56⟩ : ∃ z9 : Nat → Int32, z9 = (upd (σ.2.2.1 63) (Int32.toNatClampNeg 1) i_55) := ⟨_, rfl⟩
            have hP : va_P D vwCl (mwd y ad zw (tI (sI σ 44 0) 63 f_56)) H := by rw [ef_56]; exact x_trP hP mwd_s43
            have hD : va_D A (mwd y ad zw (tI (sI σ 44 0) 63 f_56)) := by rw [ef_56]; exact x_trD hD mwd_s43
            have hvf_56 : bI f_56 0 1000 := by rw [ef_56]; exact b_upd hB63 (by omega) (by omega)
            have sf_56 : (f_56 1).toInt = i_55.toInt := by rw [ef_56]; exact congrArg Int32.toInt (x_upd_same _ 1 _)
            refine lv_aload_n hx hb dX12_works_278 rfl (lv_at hl 7 rfl) ?_
            refine lv_dup hx hb dX12_works_279 rfl ?_
            refine va_get (D := D) (ci := 11) (v := .int (σ.1 73)) (C := RX12) (T := TX12) (N := 85) hx hb hts inX12 hown hK hP 0 mwd_o0 rfl 73 (by decide) fl421 (fun _ h9 => h9) rfl dX12_works_280 ?_
            refine lv_iload_n hx hb dX12_works_283 rfl (lv_at hl 9 rfl) ?_
            refine lv_bipush (v := 7) hx hb dX12_works_284 (by decide) ?_
            refine lv_icmp_ne (tgt := 293) hx hb dX12_works_286 (by decide) (fun c_57 => ?_) (fun c_57 => ?_)
            · exact absurd (by decide) c_57
            · refine lv_iconst (v := 1) hx hb dX12_works_289 (by decide) ?_
              refine lv_goto (tgt := 294) hx hb dX12_works_290 (by decide) ?_
              refine lv_isub hx hb dX12_works_294 ?_
              refine lv_topi (fun i_58 ei_58 => ?_)
              have vi_58 : i_58.toInt = (σ.1 73).toInt - 1 := by have h9 := x_sub ei_58 (by omega) (by omega); omega
              refine va_put (D := D) (ci := 11) (v := .int i_58) (ty := .int) (C := RX12) (T := TX12) (N := 85) hx hb hts inX12 tyX12 tyX12_ok nmX12 hown hK hP hD hS 0 mwd_o0 rfl 73 (by decide) fl421 (fun _ h9 => h9) rfl (by decide +kernel) rfl rfl (Nat.le_of_ble_eq_true rfl) dX12_works_295 (fun H locs hP hD hS => ?_)
              have hP : va_P D vwCl (mwd y ad zw (sI (tI (sI σ 44 0) 63 f_56) 73 i_58)) H := x_trP hP mwd_p0_73
              have hD : va_D A (mwd y ad zw (sI (tI (sI σ 44 0) 63 f_56) 73 i_58)) := x_trD hD mwd_p0_73
              refine lv_iload_n hx hb dX12_works_298 rfl (lv_at hl 9 rfl) ?_
              refine lv_iconst (v := 4) hx hb dX12_works_299 (by decide) ?_
              refine lv_icmp_gt (tgt := 340) hx hb dX12_works_300 (by decide) (fun c_59 => ?_) (fun c_59 => ?_)
              · refine lv_iload_n hx hb dX12_works_340 rfl (lv_at hl 9 rfl) ?_
                refine lv_bipush (v := 7) hx hb dX12_works_341 (by decide) ?_
                refine lv_icmp_ne (tgt := 394) hx hb dX12_works_343 (by decide) (fun c_60 => ?_) (fun c_60 => ?_)
                · exact absurd (by decide) c_60
                · refine lv_aload_n hx hb dX12_works_346 rfl (lv_at hl 7 rfl) ?_
                  refine lv_iload_n hx hb dX12_works_347 rfl (lv_at hl 8 rfl) ?_
                  refine lv_lload hx hb dX12_works_348 (lv_at hl 4 rfl) ?_
                  refine lv_lload hx hb dX12_works_350 (lv_at hl 3 rfl) ?_
                  refine lv_lconst (v := 0) hx hb dX12_works_352 (by decide) ?_
                  refine lv_lconst (v := 1) hx hb dX12_works_353 (by decide) ?_
                  refine x_callvW (va_runV (As := [.int 1, .long j_9, .long j_12, .long 0, .long 1]) (rest := []) ⟨hx, hb, hml, hown, hts⟩ (q_nears1 l D y H.size ad zw (sI (tI (sI σ 44 0) 63 f_56) 73 i_58) j_9 j_12 0 1 (by first | omega | decide) (by first | omega | decide) (by first | omega | decide) (by first | omega | decide) (by first | omega | decide) (by first | omega | decide) (by first | omega | decide) (by first | omega | decide)) (cwV 5 hts g_q_works1_7_0 rfl rfl rfl (by decide +kernel) ⟨Nat.le_of_ble_eq_true rfl, Nat.le_of_ble_eq_true rfl⟩) (x_preV (q := (RX12, TX12, 85)) hK hP hD (ci := 11) (q0 := 0) rfl mwd_o0) rfl rfl hl.1 rfl (lv_room (Nat.le_of_ble_eq_true rfl)) dX12_works_354 ⟨Nat.le_of_ble_eq_true rfl, Nat.le_of_ble_eq_true rfl⟩) hP hD hS hA (fun u H locs hw hP hD hS => ?_)
                  obtain ⟨f_61, n_62, j_63, j_64, n_65, j_66, j_67⟩ := u
                  try dsimp only at hw
                  have hP : va_P D vwCl (mwd y ad zw (sJ (sJ (sI (sJ (sJ (sI (tI (sI (tI (sI σ 44 0) 63 f_56) 73 i_58) 66 f_61) 44 n_62) 42 j_63) 43 j_64) 68 n_65) 69 j_66) 70 j_67)) H := hP
                  have hD : va_D A (mwd y ad zw (sJ (sJ (sI (sJ (sJ (sI (tI (sI (tI (sI σ 44 0) 63 f_56) 73 i_58) 66 f_61) 44 n_62) 42 j_63) 43 j_64) 68 n_65) 69 j_66) 70 j_67)) := hD
                  have hw : True := hw
                  refine lv_aload_n hx hb dX12_works_357 rfl (lv_at hl 7 rfl) ?_
                  refine lv_iload_n hx hb dX12_works_358 rfl (lv_at hl 8 rfl) ?_
                  refine lv_lload hx hb dX12_works_359 (lv_at hl 4 rfl) ?_
                  refine x_calllN (va_runS (As := [.long j_9]) (rest := [.int 1, .ref (ad 1)]) ⟨hx, hb, hml, hown, hts⟩ (q_size l D y H.size j_9 (by first | omega | decide)) (cwS 1 hts g_q_works1_7_1 rfl rfl rfl (by decide +kernel) ⟨Nat.le_of_ble_eq_true rfl, Nat.le_of_ble_eq_true rfl⟩) (x_preS hK (x_nilP D H) (x_nilD A)) rfl rfl hl.1 rfl (lv_room (Nat.le_of_ble_eq_true rfl)) dX12_works_361 ⟨Nat.le_of_ble_eq_true rfl, Nat.le_of_ble_eq_true rfl⟩) hP hD hS hA (fun r_68 u H locs hw hP hD hS => ?_)
                  try dsimp only at hw
                  refine lv_lload hx hb dX12_works_364 (lv_at hl 3 rfl) ?_
                  refine lv_iload_n hx hb dX12_works_366 rfl (lv_at hl 9 rfl) ?_
                  refine lv_iload hx hb dX12_works_367 (lv_at hl 5 rfl) ?_
                  refine lv_iload hx hb dX12_works_369 (lv_at hl 5 rfl) ?_
                  refine x_callvW (va_runV (As := [.int 1, .long r_68, .long j_12, .int 7, .int i_5, .int i_5]) (rest := []) ⟨hx, hb, hml, hown, hts⟩ (q_lays1 l D y H.size ad zw (sJ (sJ (sI (sJ (sJ (sI (tI (sI (tI (sI σ 44 0) 63 f_56) 73 i_58) 66 f_61) 44 n_62) 42 j_63) 43 j_64) 68 n_65) 69 j_66) 70 j_67) r_68 j_12 7 i_5 i_5 (by first | omega | decide) (by first | omega | decide) (by first | omega | decide) (by first | omega | decide) hop (fun _ => by omega) (show 0 ≤ ((σ.2.2.1 62) 1).toInt from by first | omega | decide) (show ((σ.2.2.1 62) 1).toInt < 1760 from by first | omega | decide) hB57 hB58 hB62) (cwV 6 hts g_q_works1_7_2 rfl rfl rfl (by decide +kernel) ⟨Nat.le_of_ble_eq_true rfl, Nat.le_of_ble_eq_true rfl⟩) (x_preV (q := (RX12, TX12, 85)) hK hP hD (ci := 11) (q0 := 0) rfl mwd_o0) rfl rfl hl.1 rfl (lv_room (Nat.le_of_ble_eq_true rfl)) dX12_works_371 ⟨Nat.le_of_ble_eq_true rfl, Nat.le_of_ble_eq_true rfl⟩) hP hD hS hA (fun u H locs hw hP hD hS => ?_)
                  obtain ⟨f_69, f_70, f_71, f_72, f_73, f_74⟩ := u
                  try dsimp only at hw
                  have hP : va_P D vwCl (mwd y ad zw (tI (tI (tI (tI (tJ (tJ (sJ (sJ (sI (sJ (sJ (sI (tI (sI (tI (sI σ 44 0) 63 f_56) 73 i_58) 66 f_61) 44 n_62) 42 j_63) 43 j_64) 68 n_65) 69 j_66) 70 j_67) 57 f_69) 58 f_70) 59 f_71) 60 f_72) 61 f_73) 62 f_74)) H := hP
                  have hD : va_D A (mwd y ad zw (tI (tI (tI (tI (tJ (tJ (sJ (sJ (sI (sJ (sJ (sI (tI (sI (tI (sI σ 44 0) 63 f_56) 73 i_58) 66 f_61) 44 n_62) 42 j_63) 43 j_64) 68 n_65) 69 j_66) 70 j_67) 57 f_69) 58 f_70) 59 f_71) 60 f_72) 61 f_73) 62 f_74)) := hD
                  have hw : (opc f_71 f_72 f_73 ∧ (f_74 1).toInt = ((σ.2.2.1 62) 1).toInt + 1 ∧ f_74 0 = (σ.2.2.1 62) 0) ∧ bJ f_69 (-1000000000) 1000000000 ∧ bJ f_70 0 1000000000 ∧ bI f_74 0 1760 := hw
                  obtain ⟨hw, hg_75, hg_76, hg_77⟩ := hw
                  obtain ⟨ho9, hl9, hl8⟩ := hw
                  refine lv_aload_n hx hb dX12_works_374 rfl (lv_at hl 7 rfl) ?_
                  refine va_get (D := D) (ci := 11) (v := .ref (ad 72)) (C := RX12) (T := TX12) (N := 85) hx hb hts inX12 hown hK hP 0 mwd_o0 rfl 72 (by decide) fl160 (fun _ h9 => h9) rfl dX12_works_375 ?_
                  refine lv_aload_n hx hb dX12_works_378 rfl (lv_at hl 7 rfl) ?_
                  refine va_get (D := D) (ci := 11) (v := .int i_58) (C := RX12) (T := TX12) (N := 85) hx hb hts inX12 hown hK hP 0 mwd_o0 rfl 73 (by decide) fl421 (fun _ h9 => h9) rfl dX12_works_379 ?_
                  refine lv_aload_n hx hb dX12_works_382 rfl (lv_at hl 7 rfl) ?_
                  refine va_get (D := D) (ci := 11) (v := .ref (ad 62)) (C := RX12) (T := TX12) (N := 85) hx hb hts inX12 hown hK hP 0 mwd_o0 rfl 62 (by decide) fl139 (fun _ h9 => h9) rfl dX12_works_383 ?_
                  refine lv_iload_n hx hb dX12_works_386 rfl (lv_at hl 8 rfl) ?_
                  refine va_iald hx hb hK hP 42 2 mwd_a42 rfl (x_in (by decide) (by decide)) dX12_works_387 ?_
                  refine lv_topi (fun i_78 ei_78 => ?_)
                  have ei_78 : i_78 = f_74 (Int32.toNatClampNeg 1) := ei_78
                  have gi_78 : i_78.toInt = (f_74 1).toInt := by rw [ei_78]; rfl
                  have bi_78 := b_at hg_77 ei_78
                  refine lv_iconst (v := 1) hx hb dX12_works_388 (by decide) ?_
                  refine lv_isub hx hb dX12_works_389 ?_
                  refine lv_topi (fun i_79 ei_79 => ?_)
                  have vi_79 : i_79.toInt = i_78.toInt - 1 := by have h9 := x_sub ei_79 (by omega) (by omega); omega
                  refine va_iast hx hb hK hP hD hS 49 2 mwd_a49 rfl (x_in (by omega) (by omega)) dX12_works_390 (fun H locs hP hD hS => ?_)
                  obtain ⟨f_80, ef_80⟩ : ∃ z9 : Nat → Int32, z9 = (upd (σ.2.2.1 72) (Int32.toNatClampNeg i_58) i_79) := ⟨_, rfl⟩
                  have hP : va_P D vwCl (mwd y ad zw (tI (tI (tI (tI (tI (tJ (tJ (sJ (sJ (sI (sJ (sJ (sI (tI (sI (tI (sI σ 44 0) 63 f_56) 73 i_58) 66 f_61) 44 n_62) 42 j_63) 43 j_64) 68 n_65) 69 j_66) 70 j_67) 57 f_69) 58 f_70) 59 f_71) 60 f_72) 61 f_73) 62 f_74) 72 f_80)) H := by rw [ef_80]; exact x_trP hP mwd_s49
                  have hD : va_D A (mwd y ad zw (tI (tI (tI (tI (tI (tJ (tJ (sJ (sJ (sI (sJ (sJ (sI (tI (sI (tI (sI σ 44 0) 63 f_56) 73 i_58) 66 f_61) 44 n_62) 42 j_63) 43 j_64) 68 n_65) 69 j_66) 70 j_67) 57 f_69) 58 f_70) 59 f_71) 60 f_72) 61 f_73) 62 f_74) 72 f_80)) := by rw [ef_80]; exact x_trD hD mwd_s49
                  have pf_80 : PT (true :: T) f_80 (f_74 1).toInt := by rw [ef_80]; exact PT_pushN (PT_mono (by omega) hPT.2) (x_cl (by omega)) (by omega) (by omega)
                  refine lv_goto (tgt := 626) hx hb dX12_works_391 (by decide) ?_
                  refine lv_aload_n hx hb dX12_works_626 rfl (lv_at hl 7 rfl) ?_
                  refine lv_dup hx hb dX12_works_627 rfl ?_
                  refine va_get (D := D) (ci := 11) (v := .int i_58) (C := RX12) (T := TX12) (N := 85) hx hb hts inX12 hown hK hP 0 mwd_o0 rfl 73 (by decide) fl421 (fun _ h9 => h9) rfl dX12_works_628 ?_
                  refine lv_iconst (v := 1) hx hb dX12_works_631 (by decide) ?_
                  refine lv_iadd hx hb dX12_works_632 ?_
                  refine lv_topi (fun i_81 ei_81 => ?_)
                  have vi_81 : i_81.toInt = i_58.toInt + 1 := by have h9 := x_add ei_81 (by omega) (by omega); omega
                  refine va_put (D := D) (ci := 11) (v := .int i_81) (ty := .int) (C := RX12) (T := TX12) (N := 85) hx hb hts inX12 tyX12 tyX12_ok nmX12 hown hK hP hD hS 0 mwd_o0 rfl 73 (by decide) fl421 (fun _ h9 => h9) rfl (by decide +kernel) rfl rfl (Nat.le_of_ble_eq_true rfl) dX12_works_633 (fun H locs hP hD hS => ?_)
                  have hP : va_P D vwCl (mwd y ad zw (sI (tI (tI (tI (tI (tI (tJ (tJ (sJ (sJ (sI (sJ (sJ (sI (tI (sI (tI (sI σ 44 0) 63 f_56) 73 i_58) 66 f_61) 44 n_62) 42 j_63) 43 j_64) 68 n_65) 69 j_66) 70 j_67) 57 f_69) 58 f_70) 59 f_71) 60 f_72) 61 f_73) 62 f_74) 72 f_80) 73 i_81)) H := x_trP hP mwd_p0_73
                  have hD : va_D A (mwd y ad zw (sI (tI (tI (tI (tI (tI (tJ (tJ (sJ (sJ (sI (sJ (sJ (sI (tI (sI (tI (sI σ 44 0) 63 f_56) 73 i_58) 66 f_61) 44 n_62) 42 j_63) 43 j_64) 68 n_65) 69 j_66) 70 j_67) 57 f_69) 58 f_70) 59 f_71) 60 f_72) 61 f_73) 62 f_74) 72 f_80) 73 i_81)) := x_trD hD mwd_p0_73
                  refine lv_iconst (v := 1) hx hb dX12_works_636 (by decide) ?_
                  have hP : va_P D vwCl (mwd y ad zw (tI (tI (tI (tI (tJ (tJ (sJ (sJ (sI (sJ (sJ (sI (tI (tI (tI (tI (sI σ 73 i_81) 72 f_80) 63 f_56) 67 (σ.2.2.1 67)) 66 f_61) 44 n_62) 42 j_63) 43 j_64) 68 n_65) 69 j_66) 70 j_67) 57 f_69) 58 f_70) 59 f_71) 60 f_72) 61 f_73) 62 f_74)) H := hP
                  have hD : va_D A (mwd y ad zw (tI (tI (tI (tI (tJ (tJ (sJ (sJ (sI (sJ (sJ (sI (tI (tI (tI (tI (sI σ 73 i_81) 72 f_80) 63 f_56) 67 (σ.2.2.1 67)) 66 f_61) 44 n_62) 42 j_63) 43 j_64) 68 n_65) 69 j_66) 70 j_67) 57 f_69) 58 f_70) 59 f_71) 60 f_72) 61 f_73) 62 f_74)) := hD
                  exact x_zretW (v := 1) (u := (i_81, f_80, f_56, (σ.2.2.1 67), f_61, n_62, j_63, j_64, n_65, j_66, j_67, f_69, f_70, f_71, f_72, f_73, f_74)) hx hb hr hQ rfl (by (try dsimp only); exact ⟨⟨Or.inr ⟨by omega, pf_80, by omega, rfl⟩, ho9, by omega, by omega, hl8⟩, hg_75, hg_76, hg_77, hvf_56⟩) hP hD hK hS dX12_works_637 hlocks
              · exact absurd (by decide) c_59
          · exact absurd (by decide) c_53
  · have kc_2 : i_1.toInt = 1000 := by have h9 := c_2; simp only [ge_iff_le, gt_iff_lt, x_lt, x_le, x_eq, ne_eq, Int32.not_lt, Int32.not_le] at h9; simp only [Int32.reduceToInt] at h9; omega
    refine lv_aload_n hx hb dX12_works_12 rfl (lv_at hl 0 rfl) ?_
    refine va_get (D := D) (ci := 11) (v := .ref (ad 67)) (C := RX12) (T := TX12) (N := 85) hx hb hts inX12 hown hK hP 0 mwd_o0 rfl 67 (by decide) fl154 (fun _ h9 => h9) rfl dX12_works_13 ?_
    refine lv_iload_n hx hb dX12_works_16 rfl (lv_at hl 1 rfl) ?_
    refine lv_iconst (v := 2) hx hb dX12_works_17 (by decide) ?_
    refine va_iast hx hb hK hP hD hS 47 2 mwd_a47 rfl (x_in (by decide) (by decide)) dX12_works_18 (fun H locs hP hD hS => ?_)
    obtain ⟨f_82, ef_82⟩ : ∃ z9 : Nat → Int32, z9 = (upd (σ.2.2.1 67) (Int32.toNatClampNeg 1) 2) := ⟨_, rfl⟩
    have hP : va_P D vwCl (mwd y ad zw (tI σ 67 f_82)) H := by rw [ef_82]; exact x_trP hP mwd_s47
    have hD : va_D A (mwd y ad zw (tI σ 67 f_82)) := by rw [ef_82]; exact x_trD hD mwd_s47
    refine lv_iconst (v := 0) hx hb dX12_works_19 (by decide) ?_
    have hP : va_P D vwCl (mwd y ad zw (tI (tI (tI (tI (tJ (tJ (sJ (sJ (sI (sJ (sJ (sI (tI (tI (tI (tI (sI σ 73 (σ.1 73)) 72 (σ.2.2.1 72)) 63 (σ.2.2.1 63)) 67 f_82) 66 (σ.2.2.1 66)) 44 (σ.1 44)) 42 (σ.2.1 42)) 43 (σ.2.1 43)) 68 (σ.1 68)) 69 (σ.2.1 69)) 70 (σ.2.1 70)) 57 (σ.2.2.2 57)) 58 (σ.2.2.2 58)) 59 (σ.2.2.1 59)) 60 (σ.2.2.1 60)) 61 (σ.2.2.1 61)) 62 (σ.2.2.1 62))) H := hP
    have hD : va_D A (mwd y ad zw (tI (tI (tI (tI (tJ (tJ (sJ (sJ (sI (sJ (sJ (sI (tI (tI (tI (tI (sI σ 73 (σ.1 73)) 72 (σ.2.2.1 72)) 63 (σ.2.2.1 63)) 67 f_82) 66 (σ.2.2.1 66)) 44 (σ.1 44)) 42 (σ.2.1 42)) 43 (σ.2.1 43)) 68 (σ.1 68)) 69 (σ.2.1 69)) 70 (σ.2.1 70)) 57 (σ.2.2.2 57)) 58 (σ.2.2.2 58)) 59 (σ.2.2.1 59)) 60 (σ.2.2.1 60)) 61 (σ.2.2.1 61)) 62 (σ.2.2.1 62))) := hD
    exact x_zretW (v := 0) (u := ((σ.1 73), (σ.2.2.1 72), (σ.2.2.1 63), f_82, (σ.2.2.1 66), (σ.1 44), (σ.2.1 42), (σ.2.1 43), (σ.1 68), (σ.2.1 69), (σ.2.1 70), (σ.2.2.2 57), (σ.2.2.2 58), (σ.2.2.1 59), (σ.2.2.1 60), (σ.2.2.1 61), (σ.2.2.1 62))) hx hb hr hQ rfl (by (try dsimp only); exact ⟨⟨Or.inl (by rw [ef_82]; show (upd _ 1 _ 1).toInt ≠ 0; rw [x_upd_same]; decide), hop, by omega, by omega, rfl⟩, hB57, hB58, hB62, hB63⟩) hP hD hK hS dX12_works_20 hlocks

def v_q_works1_11 : List Cond := .code yX12_works cX12_works 15 (some .boolean) :: ([.fieldLink RX12 142 "SlopeRunnerModel" "steps" "[I", .fieldLink RX12 160 "SlopeRunnerModel" "pile" "[I", .fieldLink RX12 421 "SlopeRunnerModel" "piled" "I", .fieldLink RX12 124 "SlopeRunnerModel" "valueAbove" "[J", .fieldLink RX12 127 "SlopeRunnerModel" "valueBelow" "[J", .fieldLink RX12 384 "SlopeRunnerModel" "isStuck" "Z", .fieldLink RX12 154 "SlopeRunnerModel" "state" "[I"] ++ ((wsV RX12 437 RX12 yX12_nears v_q_nears1) ++ wsX120))
theorem g_q_works1_11_0 : GoodIn v_q_works1_11 (wsV RX12 437 RX12 yX12_nears v_q_nears1) := goodIn_sub (fun w h => List.mem_cons_of_mem _ (List.mem_append_right _ (List.mem_append_left _ h))) (by decide +kernel)
set_option maxHeartbeats 4000000 in
set_option maxRecDepth 100000 in
theorem q_works1_11 (l : Launch) (D : va_G) (y : Nat → ClassId) (sz : Nat) (ad : Nat → Nat) (zw : Nat → Nat → Int32) (σ : OS) (T : List Bool) (hp : (σ.1 73).toInt = (T.length : Int) + 2) (hT : T.length ≤ 700) (hPT : PT (true :: true :: T) (σ.2.2.1 72) (σ.2.2.1 62 1).toInt) (hop : opc (σ.2.2.1 59) (σ.2.2.1 60) (σ.2.2.1 61)) (hl0 : 0 ≤ (σ.2.2.1 62 1).toInt) (hl1 : (σ.2.2.1 62 1).toInt < 1760) (hB57 : bJ (σ.2.2.2 57) (-1000000000) 1000000000) (hB58 : bJ (σ.2.2.2 58) 0 1000000000) (hB62 : bI (σ.2.2.1 62) 0 1760) (hB63 : bI (σ.2.2.1 63) 0 1000) : Met l yX12_works v_q_works1_11 ({ frames := 1, cells := 0, slots := 0, locals := 31 } : Room) (va_Pc [.ref (ad 1), .int 1, .int 11] (xPre D (xT y) (mwd y ad zw σ) sz)) (va_Qi (fun (r : Int32) (u : Int32 × (Nat → Int32) × (Nat → Int32) × (Nat → Int32) × (Nat → Int32) × Int32 × Int64 × Int64 × Int32 × Int64 × Int64 × (Nat → Int64) × (Nat → Int64) × (Nat → Int32) × (Nat → Int32) × (Nat → Int32) × (Nat → Int32)) => (((u.2.2.2.1 1).toInt ≠ 0 ∨ (u.1.toInt = (T.length : Int) + 1 ∧ PT (false :: T) u.2.1 (u.2.2.2.2.2.2.2.2.2.2.2.2.2.2.2.2 1).toInt ∧ (u.2.2.1 1).toInt = (σ.2.2.1 63 1).toInt + 1 ∧ u.2.2.2.1 = σ.2.2.1 67)) ∧ opc u.2.2.2.2.2.2.2.2.2.2.2.2.2.1 u.2.2.2.2.2.2.2.2.2.2.2.2.2.2.1 u.2.2.2.2.2.2.2.2.2.2.2.2.2.2.2.1 ∧ (σ.2.2.1 62 1).toInt ≤ (u.2.2.2.2.2.2.2.2.2.2.2.2.2.2.2.2 1).toInt ∧ (u.2.2.2.2.2.2.2.2.2.2.2.2.2.2.2.2 1).toInt - (σ.2.2.1 62 1).toInt ≤ (u.2.2.1 1).toInt - (σ.2.2.1 63 1).toInt ∧ u.2.2.2.2.2.2.2.2.2.2.2.2.2.2.2.2 0 = σ.2.2.1 62 0) ∧ bJ u.2.2.2.2.2.2.2.2.2.2.2.1 (-1000000000) 1000000000 ∧ bJ u.2.2.2.2.2.2.2.2.2.2.2.2.1 0 1000000000 ∧ bI u.2.2.2.2.2.2.2.2.2.2.2.2.2.2.2.2 0 1760 ∧ bI u.2.2.1 0 1000) (fun (u : Int32 × (Nat → Int32) × (Nat → Int32) × (Nat → Int32) × (Nat → Int32) × Int32 × Int64 × Int64 × Int32 × Int64 × Int64 × (Nat → Int64) × (Nat → Int64) × (Nat → Int32) × (Nat → Int32) × (Nat → Int32) × (Nat → Int32)) => xB D (xT y) (va_A (mwd y ad zw σ) sz) (mwd y ad zw (tI (tI (tI (tI (tJ (tJ (sJ (sJ (sI (sJ (sJ (sI (tI (tI (tI (tI (sI σ 73 u.1) 72 u.2.1) 63 u.2.2.1) 67 u.2.2.2.1) 66 u.2.2.2.2.1) 44 u.2.2.2.2.2.1) 42 u.2.2.2.2.2.2.1) 43 u.2.2.2.2.2.2.2.1) 68 u.2.2.2.2.2.2.2.2.1) 69 u.2.2.2.2.2.2.2.2.2.1) 70 u.2.2.2.2.2.2.2.2.2.2.1) 57 u.2.2.2.2.2.2.2.2.2.2.2.1) 58 u.2.2.2.2.2.2.2.2.2.2.2.2.1) 59 u.2.2.2.2.2.2.2.2.2.2.2.2.2.1) 60 u.2.2.2.2.2.2.2.2.2.2.2.2.2.2.1) 61 u.2.2.2.2.2.2.2.2.2.2.2.2.2.2.2.1) 62 u.2.2.2.2.2.2.2.2.2.2.2.2.2.2.2.2))) (va_A (mwd y ad zw σ) sz)) 0 0 (va_A (mwd y ad zw σ) sz) := by
  refine x_meti (cc := cX12_works) (maxL := 15) (by decide) rfl (Nat.le_of_ble_eq_true rfl) ?_
  intro p e s m below meth c A H locs Q hx hb hml hown hts hr hlocks hmn hA hP hK hD hS ls hl hQ
  have hl : lv_has ls 15 [(0, .ref (ad 1)), (1, .int 1), (2, .int 11)] := hl
  have fl142 := hts (.fieldLink RX12 142 "SlopeRunnerModel" "steps" "[I") (List.mem_of_getElem? (i := 1) rfl)
  have inX12 : ∀ w ∈ wsX120, w ∈ v_q_works1_11 := (fun w h => List.mem_cons_of_mem _ (List.mem_append_right _ (List.mem_append_right _ h)))
  have kk_1000 : (1000 : Int32).toInt = 1000 := rfl
  have fl160 := hts (.fieldLink RX12 160 "SlopeRunnerModel" "pile" "[I") (List.mem_of_getElem? (i := 2) rfl)
  have fl421 := hts (.fieldLink RX12 421 "SlopeRunnerModel" "piled" "I") (List.mem_of_getElem? (i := 3) rfl)
  have kk_1 : (1 : Int32).toInt = 1 := rfl
  have kk_2 : (2 : Int32).toInt = 2 := rfl
  have fl124 := hts (.fieldLink RX12 124 "SlopeRunnerModel" "valueAbove" "[J") (List.mem_of_getElem? (i := 4) rfl)
  have kk_1760 : (1760 : Int32).toInt = 1760 := rfl
  have fl127 := hts (.fieldLink RX12 127 "SlopeRunnerModel" "valueBelow" "[J") (List.mem_of_getElem? (i := 5) rfl)
  have fl384 := hts (.fieldLink RX12 384 "SlopeRunnerModel" "isStuck" "Z") (List.mem_of_getElem? (i := 6) rfl)
  have fl154 := hts (.fieldLink RX12 154 "SlopeRunnerModel" "state" "[I") (List.mem_of_getElem? (i := 7) rfl)
  have kk_0 : (0 : Int32).toInt = 0 := rfl
  refine lv_aload_n hx hb dX12_works_0 rfl (lv_at hl 0 rfl) ?_
  refine va_get (D := D) (ci := 11) (v := .ref (ad 63)) (C := RX12) (T := TX12) (N := 85) hx hb hts inX12 hown hK hP 0 mwd_o0 rfl 63 (by decide) fl142 (fun _ h9 => h9) rfl dX12_works_1 ?_
  refine lv_iload_n hx hb dX12_works_4 rfl (lv_at hl 1 rfl) ?_
  refine va_iald hx hb hK hP 43 2 mwd_a43 rfl (x_in (by decide) (by decide)) dX12_works_5 ?_
  refine lv_topi (fun i_1 ei_1 => ?_)
  have ei_1 : i_1 = (σ.2.2.1 63) (Int32.toNatClampNeg 1) := ei_1
  have gi_1 : i_1.toInt = (σ.2.2.1 63 1).toInt := by rw [ei_1]; rfl
  have bi_1 := b_at hB63 ei_1
  refine lv_sipush (v := 1000) hx hb dX12_works_6 (by decide) ?_
  refine lv_icmp_ne (tgt := 21) hx hb dX12_works_9 (by decide) (fun c_2 => ?_) (fun c_2 => ?_)
  · have kc_2 : i_1.toInt ≠ 1000 := by have h9 := c_2; simp only [ge_iff_le, gt_iff_lt, x_lt, x_le, x_eq, ne_eq, Int32.not_lt, Int32.not_le] at h9; simp only [Int32.reduceToInt] at h9; omega
    refine lv_iload_n hx hb dX12_works_21 rfl (lv_at hl 2 rfl) ?_
    refine lv_bipush (v := 7) hx hb dX12_works_22 (by decide) ?_
    refine lv_icmp_ne (tgt := 41) hx hb dX12_works_24 (by decide) (fun c_3 => ?_) (fun c_3 => ?_)
    · refine lv_aload_n hx hb dX12_works_41 rfl (lv_at hl 0 rfl) ?_
      refine va_get (D := D) (ci := 11) (v := .ref (ad 72)) (C := RX12) (T := TX12) (N := 85) hx hb hts inX12 hown hK hP 0 mwd_o0 rfl 72 (by decide) fl160 (fun _ h9 => h9) rfl dX12_works_42 ?_
      refine lv_aload_n hx hb dX12_works_45 rfl (lv_at hl 0 rfl) ?_
      refine va_get (D := D) (ci := 11) (v := .int (σ.1 73)) (C := RX12) (T := TX12) (N := 85) hx hb hts inX12 hown hK hP 0 mwd_o0 rfl 73 (by decide) fl421 (fun _ h9 => h9) rfl dX12_works_46 ?_
      refine lv_iconst (v := 1) hx hb dX12_works_49 (by decide) ?_
      refine lv_isub hx hb dX12_works_50 ?_
      refine lv_topi (fun i_4 ei_4 => ?_)
      have vi_4 : i_4.toInt = (σ.1 73).toInt - 1 := by have h9 := x_sub ei_4 (by omega) (by omega); omega
      refine va_iald hx hb hK hP 49 2 mwd_a49 rfl (x_in (by omega) (by omega)) dX12_works_51 ?_
      refine lv_topi (fun i_5 ei_5 => ?_)
      have ei_5 : i_5 = (σ.2.2.1 72) (Int32.toNatClampNeg i_4) := ei_5
      have gi_5 := PT_N hPT ei_5 (x_cl (by simp only [List.length_cons]; omega))
      refine lv_istore_n (lv' := [(3, .int i_5), (0, .ref (ad 1)), (1, .int 1), (2, .int 11)]) hx hb dX12_works_52 rfl hl (by decide) rfl (fun ls hl => ?_)
      refine lv_iload_n hx hb dX12_works_53 rfl (lv_at hl 3 rfl) ?_
      refine lv_bipush (v := 7) hx hb dX12_works_54 (by decide) ?_
      refine lv_icmp_ne (tgt := 63) hx hb dX12_works_56 (by decide) (fun c_6 => ?_) (fun c_6 => ?_)
      · refine lv_aload_n hx hb dX12_works_63 rfl (lv_at hl 1 rfl) ?_
        refine va_get (D := D) (ci := 11) (v := .ref (ad 72)) (C := RX12) (T := TX12) (N := 85) hx hb hts inX12 hown hK hP 0 mwd_o0 rfl 72 (by decide) fl160 (fun _ h9 => h9) rfl dX12_works_64 ?_
        refine lv_aload_n hx hb dX12_works_67 rfl (lv_at hl 1 rfl) ?_
        refine va_get (D := D) (ci := 11) (v := .int (σ.1 73)) (C := RX12) (T := TX12) (N := 85) hx hb hts inX12 hown hK hP 0 mwd_o0 rfl 73 (by decide) fl421 (fun _ h9 => h9) rfl dX12_works_68 ?_
        refine lv_iconst (v := 2) hx hb dX12_works_71 (by decide) ?_
        refine lv_isub hx hb dX12_works_72 ?_
        refine lv_topi (fun i_7 ei_7 => ?_)
        have vi_7 : i_7.toInt = (σ.1 73).toInt - 2 := by have h9 := x_sub ei_7 (by omega) (by omega); omega
        refine va_iald hx hb hK hP 49 2 mwd_a49 rfl (x_in (by omega) (by omega)) dX12_works_73 ?_
        refine lv_topi (fun i_8 ei_8 => ?_)
        have ei_8 : i_8 = (σ.2.2.1 72) (Int32.toNatClampNeg i_7) := ei_8
        have gi_8 := PT_N hPT.2 ei_8 (x_cl (by omega))
        refine lv_istore (lv' := [(4, .int i_8), (3, .int i_5), (0, .ref (ad 1)), (1, .int 1), (2, .int 11)]) hx hb dX12_works_74 hl (by decide) rfl (fun ls hl => ?_)
        refine lv_aload_n hx hb dX12_works_76 rfl (lv_at hl 2 rfl) ?_
        refine va_get (D := D) (ci := 11) (v := .ref (ad 57)) (C := RX12) (T := TX12) (N := 85) hx hb hts inX12 hown hK hP 0 mwd_o0 rfl 57 (by decide) fl124 (fun _ h9 => h9) rfl dX12_works_77 ?_
        refine lv_sipush (v := 1760) hx hb dX12_works_80 (by decide) ?_
        refine lv_iload_n hx hb dX12_works_83 rfl (lv_at hl 3 rfl) ?_
        refine lv_imul hx hb dX12_works_84 ?_
        refine lv_topi (fun i_9 ei_9 => ?_)
        obtain rfl : i_9 = 1760 := ei_9.trans (by decide)
        refine lv_iload hx hb dX12_works_85 (lv_at hl 0 rfl) ?_
        refine lv_iadd hx hb dX12_works_87 ?_
        refine lv_topi (fun i_10 ei_10 => ?_)
        have vi_10 : i_10.toInt = 1760 + i_8.toInt := by have h9 := x_add ei_10 (by omega) (by omega); omega
        refine va_lald hx hb hK hP 37 3 mwd_a37 rfl (x_in (by omega) (by omega)) dX12_works_88 ?_
        refine lv_topl (fun j_11 ej_11 => ?_)
        have ej_11 : j_11 = (σ.2.2.2 57) (Int32.toNatClampNeg i_10) := ej_11
        have bj_11 := b_atJ hB57 ej_11
        refine lv_lstore (lv' := [(5, .long j_11), (4, .int i_8), (3, .int i_5), (0, .ref (ad 1)), (1, .int 1), (2, .int 11)]) hx hb dX12_works_89 hl (by decide) rfl (fun ls hl => ?_)
        refine lv_aload_n hx hb dX12_works_91 rfl (lv_at hl 3 rfl) ?_
        refine va_get (D := D) (ci := 11) (v := .ref (ad 58)) (C := RX12) (T := TX12) (N := 85) hx hb hts inX12 hown hK hP 0 mwd_o0 rfl 58 (by decide) fl127 (fun _ h9 => h9) rfl dX12_works_92 ?_
        refine lv_sipush (v := 1760) hx hb dX12_works_95 (by decide) ?_
        refine lv_iload_n hx hb dX12_works_98 rfl (lv_at hl 4 rfl) ?_
        refine lv_imul hx hb dX12_works_99 ?_
        refine lv_topi (fun i_12 ei_12 => ?_)
        obtain rfl : i_12 = 1760 := ei_12.trans (by decide)
        refine lv_iload hx hb dX12_works_100 (lv_at hl 1 rfl) ?_
        refine lv_iadd hx hb dX12_works_102 ?_
        refine lv_topi (fun i_13 ei_13 => ?_)
        have vi_13 : i_13.toInt = 1760 + i_8.toInt := by have h9 := x_add ei_13 (by omega) (by omega); omega
        refine va_lald hx hb hK hP 38 3 mwd_a38 rfl (x_in (by omega) (by omega)) dX12_works_103 ?_
        refine lv_topl (fun j_14 ej_14 => ?_)
        have ej_14 : j_14 = (σ.2.2.2 58) (Int32.toNatClampNeg i_13) := ej_14
        have bj_14 := b_atJ hB58 ej_14
        refine lv_lstore (lv' := [(7, .long j_14), (5, .long j_11), (4, .int i_8), (3, .int i_5), (0, .ref (ad 1)), (1, .int 1), (2, .int 11)]) hx hb dX12_works_104 hl (by decide) rfl (fun ls hl => ?_)
        refine lv_aload_n hx hb dX12_works_106 rfl (lv_at hl 4 rfl) ?_
        refine va_get (D := D) (ci := 11) (v := .ref (ad 57)) (C := RX12) (T := TX12) (N := 85) hx hb hts inX12 hown hK hP 0 mwd_o0 rfl 57 (by decide) fl124 (fun _ h9 => h9) rfl dX12_works_107 ?_
        refine lv_sipush (v := 1760) hx hb dX12_works_110 (by decide) ?_
        refine lv_iload_n hx hb dX12_works_113 rfl (lv_at hl 5 rfl) ?_
        refine lv_imul hx hb dX12_works_114 ?_
        refine lv_topi (fun i_15 ei_15 => ?_)
        obtain rfl : i_15 = 1760 := ei_15.trans (by decide)
        refine lv_iload_n hx hb dX12_works_115 rfl (lv_at hl 3 rfl) ?_
        refine lv_iadd hx hb dX12_works_116 ?_
        refine lv_topi (fun i_16 ei_16 => ?_)
        have vi_16 : i_16.toInt = 1760 + i_5.toInt := by have h9 := x_add ei_16 (by omega) (by omega); omega
        refine va_lald hx hb hK hP 37 3 mwd_a37 rfl (x_in (by omega) (by omega)) dX12_works_117 ?_
        refine lv_topl (fun j_17 ej_17 => ?_)
        have ej_17 : j_17 = (σ.2.2.2 57) (Int32.toNatClampNeg i_16) := ej_17
        have bj_17 := b_atJ hB57 ej_17
        refine lv_lstore (lv' := [(9, .long j_17), (7, .long j_14), (5, .long j_11), (4, .int i_8), (3, .int i_5), (0, .ref (ad 1)), (1, .int 1), (2, .int 11)]) hx hb dX12_works_118 hl (by decide) rfl (fun ls hl => ?_)
        refine lv_aload_n hx hb dX12_works_120 rfl (lv_at hl 5 rfl) ?_
        refine va_get (D := D) (ci := 11) (v := .ref (ad 58)) (C := RX12) (T := TX12) (N := 85) hx hb hts inX12 hown hK hP 0 mwd_o0 rfl 58 (by decide) fl127 (fun _ h9 => h9) rfl dX12_works_121 ?_
        refine lv_sipush (v := 1760) hx hb dX12_works_124 (by decide) ?_
        refine lv_iload_n hx hb dX12_works_127 rfl (lv_at hl 6 rfl) ?_
        refine lv_imul hx hb dX12_works_128 ?_
        refine lv_topi (fun i_18 ei_18 => ?_)
        obtain rfl : i_18 = 1760 := ei_18.trans (by decide)
        refine lv_iload_n hx hb dX12_works_129 rfl (lv_at hl 4 rfl) ?_
        refine lv_iadd hx hb dX12_works_130 ?_
        refine lv_topi (fun i_19 ei_19 => ?_)
        have vi_19 : i_19.toInt = 1760 + i_5.toInt := by have h9 := x_add ei_19 (by omega) (by omega); omega
        refine va_lald hx hb hK hP 38 3 mwd_a38 rfl (x_in (by omega) (by omega)) dX12_works_131 ?_
        refine lv_topl (fun j_20 ej_20 => ?_)
        have ej_20 : j_20 = (σ.2.2.2 58) (Int32.toNatClampNeg i_19) := ej_20
        have bj_20 := b_atJ hB58 ej_20
        refine lv_lstore (lv' := [(11, .long j_20), (9, .long j_17), (7, .long j_14), (5, .long j_11), (4, .int i_8), (3, .int i_5), (0, .ref (ad 1)), (1, .int 1), (2, .int 11)]) hx hb dX12_works_132 hl (by decide) rfl (fun ls hl => ?_)
        refine lv_lload hx hb dX12_works_134 (lv_at hl 3 rfl) ?_
        refine lv_lload hx hb dX12_works_136 (lv_at hl 0 rfl) ?_
        refine lv_lmul hx hb dX12_works_138 ?_
        refine lv_topl (fun j_21 ej_21 => ?_)
        have vj_21 := x_mulB ej_21 (by omega) (by omega) (by omega) (by omega)
        refine lv_lload hx hb dX12_works_139 (lv_at hl 1 rfl) ?_
        refine lv_lload hx hb dX12_works_141 (lv_at hl 2 rfl) ?_
        refine lv_lmul hx hb dX12_works_143 ?_
        refine lv_topl (fun j_22 ej_22 => ?_)
        have vj_22 := x_mulB ej_22 (by omega) (by omega) (by omega) (by omega)
        refine W.lcmp hx hb dX12_works_144 ?_
        refine lv_if_ge (tgt := 152) hx hb dX12_works_145 (by decide) (fun c_23 => ?_) (fun c_23 => ?_)
        · have kc_23 : j_21.toInt ≥ j_22.toInt := by have h9 := x_tri j_21 j_22; (try simp only [Int64.reduceToInt] at h9); rcases h9 with ⟨g1, g2⟩ | ⟨g1, g2⟩ | ⟨g1, g2⟩ <;> first | omega | (exfalso; rw [g1] at c_23; revert c_23; decide)
          refine lv_iconst (v := 0) hx hb dX12_works_152 (by decide) ?_
          refine lv_istore (lv' := [(13, .int 0), (11, .long j_20), (9, .long j_17), (7, .long j_14), (5, .long j_11), (4, .int i_8), (3, .int i_5), (0, .ref (ad 1)), (1, .int 1), (2, .int 11)]) hx hb dX12_works_153 hl (by decide) rfl (fun ls hl => ?_)
          refine lv_aload_n hx hb dX12_works_155 rfl (lv_at hl 7 rfl) ?_
          refine lv_iconst (v := 0) hx hb dX12_works_156 (by decide) ?_
          refine va_put (D := D) (ci := 11) (v := .int 0) (ty := .boolean) (C := RX12) (T := TX12) (N := 85) hx hb hts inX12 tyX12 tyX12_ok nmX12 hown hK hP hD hS 0 mwd_o0 rfl 44 (by decide) fl384 (fun _ h9 => h9) rfl (by decide +kernel) rfl rfl (Nat.le_of_ble_eq_true rfl) dX12_works_157 (fun H locs hP hD hS => ?_)
          have hP : va_P D vwCl (mwd y ad zw (sI σ 44 0)) H := x_trP hP mwd_p0_44
          have hD : va_D A (mwd y ad zw (sI σ 44 0)) := x_trD hD mwd_p0_44
          refine lv_iload_n hx hb dX12_works_160 rfl (lv_at hl 9 rfl) ?_
          refine lv_tableOut (tgt := 252) hx hb dX12_works_161 (by decide) (by decide) ?_
          refine lv_aload_n hx hb dX12_works_252 rfl (lv_at hl 7 rfl) ?_
          refine va_get (D := D) (ci := 11) (v := .int 0) (C := RX12) (T := TX12) (N := 85) hx hb hts inX12 hown hK hP 0 mwd_o0 rfl 44 (by decide) fl384 (fun _ h9 => h9) rfl dX12_works_253 ?_
          refine lv_if_eq (tgt := 268) hx hb dX12_works_256 (by decide) (fun c_25 => ?_) (fun c_25 => ?_)
          · refine lv_aload_n hx hb dX12_works_268 rfl (lv_at hl 7 rfl) ?_
            refine va_get (D := D) (ci := 11) (v := .ref (ad 63)) (C := RX12) (T := TX12) (N := 85) hx hb hts inX12 hown hK hP 0 mwd_o0 rfl 63 (by decide) fl142 (fun _ h9 => h9) rfl dX12_works_269 ?_
            refine lv_iload_n hx hb dX12_works_272 rfl (lv_at hl 8 rfl) ?_
            refine lv_dup2_11 hx hb dX12_works_273 rfl rfl ?_
            refine va_iald hx hb hK hP 43 2 mwd_a43 rfl (x_in (by decide) (by decide)) dX12_works_274 ?_
            refine lv_topi (fun i_26 ei_26 => ?_)
            have ei_26 : i_26 = (σ.2.2.1 63) (Int32.toNatClampNeg 1) := ei_26
            have gi_26 : i_26.toInt = (σ.2.2.1 63 1).toInt := by rw [ei_26]; rfl
            have bi_26 := b_at hB63 ei_26
            refine lv_iconst (v := 1) hx hb dX12_works_275 (by decide) ?_
            refine lv_iadd hx hb dX12_works_276 ?_
            refine lv_topi (fun i_27 ei_27 => ?_)
            have vi_27 : i_27.toInt = i_26.toInt + 1 := by have h9 := x_add ei_27 (by omega) (by omega); omega
            refine va_iast hx hb hK hP hD hS 43 2 mwd_a43 rfl (x_in (by decide) (by decide)) dX12_works_277 (fun H locs hP hD hS => ?_)
            obtain ⟨f_28, ef_28⟩ : ∃ z9 : Nat → Int32, z9 = (upd (σ.2.2.1 63) (Int32.toNatClampNeg 1) i_27) := ⟨_, rfl⟩
            have hP : va_P D vwCl (mwd y ad zw (tI (sI σ 44 0) 63 f_28)) H := by rw [ef_28]; exact x_trP hP mwd_s43
            have hD : va_D A (mwd y ad zw (tI (sI σ 44 0) 63 f_28)) := by rw [ef_28]; exact x_trD hD mwd_s43
            have hvf_28 : bI f_28 0 1000 := by rw [ef_28]; exact b_upd hB63 (by omega) (by omega)
            have sf_28 : (f_28 1).toInt = i_27.toInt := by rw [ef_28]; exact congrArg Int32.toInt (x_upd_same _ 1 _)
            refine lv_aload_n hx hb dX12_works_278 rfl (lv_at hl 7 rfl) ?_
            refine lv_dup hx hb dX12_works_279 rfl ?_
            refine va_get (D := D) (ci := 11) (v := .int (σ.1 73)) (C := RX12) (T := TX12) (N := 85) hx hb hts inX12 hown hK hP 0 mwd_o0 rfl 73 (by decide) fl421 (fun _ h9 => h9) rfl dX12_works_280 ?_
            refine lv_iload_n hx hb dX12_works_283 rfl (lv_at hl 9 rfl) ?_
            refine lv_bipush (v := 7) hx hb dX12_works_284 (by decide) ?_
            refine lv_icmp_ne (tgt := 293) hx hb dX12_works_286 (by decide) (fun c_29 => ?_) (fun c_29 => ?_)
            · refine lv_iconst (v := 2) hx hb dX12_works_293 (by decide) ?_
              refine lv_isub hx hb dX12_works_294 ?_
              refine lv_topi (fun i_30 ei_30 => ?_)
              have vi_30 : i_30.toInt = (σ.1 73).toInt - 2 := by have h9 := x_sub ei_30 (by omega) (by omega); omega
              refine va_put (D := D) (ci := 11) (v := .int i_30) (ty := .int) (C := RX12) (T := TX12) (N := 85) hx hb hts inX12 tyX12 tyX12_ok nmX12 hown hK hP hD hS 0 mwd_o0 rfl 73 (by decide) fl421 (fun _ h9 => h9) rfl (by decide +kernel) rfl rfl (Nat.le_of_ble_eq_true rfl) dX12_works_295 (fun H locs hP hD hS => ?_)
              have hP : va_P D vwCl (mwd y ad zw (sI (tI (sI σ 44 0) 63 f_28) 73 i_30)) H := x_trP hP mwd_p0_73
              have hD : va_D A (mwd y ad zw (sI (tI (sI σ 44 0) 63 f_28) 73 i_30)) := x_trD hD mwd_p0_73
              refine lv_iload_n hx hb dX12_works_298 rfl (lv_at hl 9 rfl) ?_
              refine lv_iconst (v := 4) hx hb dX12_works_299 (by decide) ?_
              refine lv_icmp_gt (tgt := 340) hx hb dX12_works_300 (by decide) (fun c_31 => ?_) (fun c_31 => ?_)
              · refine lv_iload_n hx hb dX12_works_340 rfl (lv_at hl 9 rfl) ?_
                refine lv_bipush (v := 7) hx hb dX12_works_341 (by decide) ?_
                refine lv_icmp_ne (tgt := 394) hx hb dX12_works_343 (by decide) (fun c_32 => ?_) (fun c_32 => ?_)
                · refine lv_iload_n hx hb dX12_works_394 rfl (lv_at hl 9 rfl) ?_
                  refine lv_iconst (v := 5) hx hb dX12_works_395 (by decide) ?_
                  refine lv_icmp_eq (tgt := 405) hx hb dX12_works_396 (by decide) (fun c_33 => ?_) (fun c_33 => ?_)
                  · exact absurd c_33 (by decide)
                  · refine lv_iload_n hx hb dX12_works_399 rfl (lv_at hl 9 rfl) ?_
                    refine lv_bipush (v := 6) hx hb dX12_works_400 (by decide) ?_
                    refine lv_icmp_ne (tgt := 538) hx hb dX12_works_402 (by decide) (fun c_34 => ?_) (fun c_34 => ?_)
                    · refine lv_aload_n hx hb dX12_works_538 rfl (lv_at hl 7 rfl) ?_
                      refine lv_iload_n hx hb dX12_works_539 rfl (lv_at hl 8 rfl) ?_
                      refine lv_lload hx hb dX12_works_540 (lv_at hl 4 rfl) ?_
                      refine lv_lload hx hb dX12_works_542 (lv_at hl 3 rfl) ?_
                      refine lv_lload hx hb dX12_works_544 (lv_at hl 2 rfl) ?_
                      refine lv_lload hx hb dX12_works_546 (lv_at hl 1 rfl) ?_
                      refine x_callvW (va_runV (As := [.int 1, .long j_11, .long j_14, .long j_17, .long j_20]) (rest := []) ⟨hx, hb, hml, hown, hts⟩ (q_nears1 l D y H.size ad zw (sI (tI (sI σ 44 0) 63 f_28) 73 i_30) j_11 j_14 j_17 j_20 (by first | omega | decide) (by first | omega | decide) (by first | omega | decide) (by first | omega | decide) (by first | omega | decide) (by first | omega | decide) (by first | omega | decide) (by first | omega | decide)) (cwV 5 hts g_q_works1_11_0 rfl rfl rfl (by decide +kernel) ⟨Nat.le_of_ble_eq_true rfl, Nat.le_of_ble_eq_true rfl⟩) (x_preV (q := (RX12, TX12, 85)) hK hP hD (ci := 11) (q0 := 0) rfl mwd_o0) rfl rfl hl.1 rfl (lv_room (Nat.le_of_ble_eq_true rfl)) dX12_works_548 ⟨Nat.le_of_ble_eq_true rfl, Nat.le_of_ble_eq_true rfl⟩) hP hD hS hA (fun u H locs hw hP hD hS => ?_)
                      obtain ⟨f_35, n_36, j_37, j_38, n_39, j_40, j_41⟩ := u
                      try dsimp only at hw
                      have hP : va_P D vwCl (mwd y ad zw (sJ (sJ (sI (sJ (sJ (sI (tI (sI (tI (sI σ 44 0) 63 f_28) 73 i_30) 66 f_35) 44 n_36) 42 j_37) 43 j_38) 68 n_39) 69 j_40) 70 j_41)) H := hP
                      have hD : va_D A (mwd y ad zw (sJ (sJ (sI (sJ (sJ (sI (tI (sI (tI (sI σ 44 0) 63 f_28) 73 i_30) 66 f_35) 44 n_36) 42 j_37) 43 j_38) 68 n_39) 69 j_40) 70 j_41)) := hD
                      have hw : True := hw
                      refine lv_lload hx hb dX12_works_551 (lv_at hl 4 rfl) ?_
                      refine lv_lload hx hb dX12_works_553 (lv_at hl 2 rfl) ?_
                      refine W.lcmp hx hb dX12_works_555 ?_
                      refine lv_if_ne (tgt := 571) hx hb dX12_works_556 (by decide) (fun c_42 => ?_) (fun c_42 => ?_)
                      · have kc_42 : j_11.toInt ≠ j_17.toInt := by have h9 := x_tri j_11 j_17; (try simp only [Int64.reduceToInt] at h9); rcases h9 with ⟨g1, g2⟩ | ⟨g1, g2⟩ | ⟨g1, g2⟩ <;> first | omega | (exfalso; rw [g1] at c_42; revert c_42; decide)
                        refine lv_iconst (v := 0) hx hb dX12_works_571 (by decide) ?_
                        refine lv_istore (lv' := [(14, .int 0), (13, .int 0), (11, .long j_20), (9, .long j_17), (7, .long j_14), (5, .long j_11), (4, .int i_8), (3, .int i_5), (0, .ref (ad 1)), (1, .int 1), (2, .int 11)]) hx hb dX12_works_572 hl (by decide) rfl (fun ls hl => ?_)
                        refine lv_aload_n hx hb dX12_works_574 rfl (lv_at hl 8 rfl) ?_
                        refine va_get (D := D) (ci := 11) (v := .ref (ad 72)) (C := RX12) (T := TX12) (N := 85) hx hb hts inX12 hown hK hP 0 mwd_o0 rfl 72 (by decide) fl160 (fun _ h9 => h9) rfl dX12_works_575 ?_
                        refine lv_aload_n hx hb dX12_works_578 rfl (lv_at hl 8 rfl) ?_
                        refine va_get (D := D) (ci := 11) (v := .int i_30) (C := RX12) (T := TX12) (N := 85) hx hb hts inX12 hown hK hP 0 mwd_o0 rfl 73 (by decide) fl421 (fun _ h9 => h9) rfl dX12_works_579 ?_
                        refine lv_iload_n hx hb dX12_works_582 rfl (lv_at hl 10 rfl) ?_
                        refine lv_bipush (v := 11) hx hb dX12_works_583 (by decide) ?_
                        refine lv_icmp_ne (tgt := 596) hx hb dX12_works_585 (by decide) (fun c_43 => ?_) (fun c_43 => ?_)
                        · exact absurd (by decide) c_43
                        · refine lv_iload hx hb dX12_works_588 (lv_at hl 1 rfl) ?_
                          refine lv_if_eq (tgt := 624) hx hb dX12_works_590 (by decide) (fun c_44 => ?_) (fun c_44 => ?_)
                          · refine lv_iconst (v := 0) hx hb dX12_works_624 (by decide) ?_
                            refine va_iast hx hb hK hP hD hS 49 2 mwd_a49 rfl (x_in (by omega) (by omega)) dX12_works_625 (fun H locs hP hD hS => ?_)
                            obtain ⟨f_45, ef_45⟩ : ∃ z9 : Nat → Int32, z9 = (upd (σ.2.2.1 72) (Int32.toNatClampNeg i_30) 0) := ⟨_, rfl⟩
                            have hP : va_P D vwCl (mwd y ad zw (tI (sJ (sJ (sI (sJ (sJ (sI (tI (sI (tI (sI σ 44 0) 63 f_28) 73 i_30) 66 f_35) 44 n_36) 42 j_37) 43 j_38) 68 n_39) 69 j_40) 70 j_41) 72 f_45)) H := by rw [ef_45]; exact x_trP hP mwd_s49
                            have hD : va_D A (mwd y ad zw (tI (sJ (sJ (sI (sJ (sJ (sI (tI (sI (tI (sI σ 44 0) 63 f_28) 73 i_30) 66 f_35) 44 n_36) 42 j_37) 43 j_38) 68 n_39) 69 j_40) 70 j_41) 72 f_45)) := by rw [ef_45]; exact x_trD hD mwd_s49
                            have pf_45 : PT (false :: T) f_45 ((σ.2.2.1 62) 1).toInt := by rw [ef_45]; exact PT_pushF (PT_mono (by omega) hPT.2.2) (x_cl (by omega)) (by decide)
                            refine lv_aload_n hx hb dX12_works_626 rfl (lv_at hl 8 rfl) ?_
                            refine lv_dup hx hb dX12_works_627 rfl ?_
                            refine va_get (D := D) (ci := 11) (v := .int i_30) (C := RX12) (T := TX12) (N := 85) hx hb hts inX12 hown hK hP 0 mwd_o0 rfl 73 (by decide) fl421 (fun _ h9 => h9) rfl dX12_works_628 ?_
                            refine lv_iconst (v := 1) hx hb dX12_works_631 (by decide) ?_
                            refine lv_iadd hx hb dX12_works_632 ?_
                            refine lv_topi (fun i_46 ei_46 => ?_)
                            have vi_46 : i_46.toInt = i_30.toInt + 1 := by have h9 := x_add ei_46 (by omega) (by omega); omega
                            refine va_put (D := D) (ci := 11) (v := .int i_46) (ty := .int) (C := RX12) (T := TX12) (N := 85) hx hb hts inX12 tyX12 tyX12_ok nmX12 hown hK hP hD hS 0 mwd_o0 rfl 73 (by decide) fl421 (fun _ h9 => h9) rfl (by decide +kernel) rfl rfl (Nat.le_of_ble_eq_true rfl) dX12_works_633 (fun H locs hP hD hS => ?_)
                            have hP : va_P D vwCl (mwd y ad zw (sI (tI (sJ (sJ (sI (sJ (sJ (sI (tI (sI (tI (sI σ 44 0) 63 f_28) 73 i_30) 66 f_35) 44 n_36) 42 j_37) 43 j_38) 68 n_39) 69 j_40) 70 j_41) 72 f_45) 73 i_46)) H := x_trP hP mwd_p0_73
                            have hD : va_D A (mwd y ad zw (sI (tI (sJ (sJ (sI (sJ (sJ (sI (tI (sI (tI (sI σ 44 0) 63 f_28) 73 i_30) 66 f_35) 44 n_36) 42 j_37) 43 j_38) 68 n_39) 69 j_40) 70 j_41) 72 f_45) 73 i_46)) := x_trD hD mwd_p0_73
                            refine lv_iconst (v := 1) hx hb dX12_works_636 (by decide) ?_
                            have hP : va_P D vwCl (mwd y ad zw (tI (tI (tI (tI (tJ (tJ (sJ (sJ (sI (sJ (sJ (sI (tI (tI (tI (tI (sI σ 73 i_46) 72 f_45) 63 f_28) 67 (σ.2.2.1 67)) 66 f_35) 44 n_36) 42 j_37) 43 j_38) 68 n_39) 69 j_40) 70 j_41) 57 (σ.2.2.2 57)) 58 (σ.2.2.2 58)) 59 (σ.2.2.1 59)) 60 (σ.2.2.1 60)) 61 (σ.2.2.1 61)) 62 (σ.2.2.1 62))) H := hP
                            have hD : va_D A (mwd y ad zw (tI (tI (tI (tI (tJ (tJ (sJ (sJ (sI (sJ (sJ (sI (tI (tI (tI (tI (sI σ 73 i_46) 72 f_45) 63 f_28) 67 (σ.2.2.1 67)) 66 f_35) 44 n_36) 42 j_37) 43 j_38) 68 n_39) 69 j_40) 70 j_41) 57 (σ.2.2.2 57)) 58 (σ.2.2.2 58)) 59 (σ.2.2.1 59)) 60 (σ.2.2.1 60)) 61 (σ.2.2.1 61)) 62 (σ.2.2.1 62))) := hD
                            exact x_zretW (v := 1) (u := (i_46, f_45, f_28, (σ.2.2.1 67), f_35, n_36, j_37, j_38, n_39, j_40, j_41, (σ.2.2.2 57), (σ.2.2.2 58), (σ.2.2.1 59), (σ.2.2.1 60), (σ.2.2.1 61), (σ.2.2.1 62))) hx hb hr hQ rfl (by (try dsimp only); exact ⟨⟨Or.inr ⟨by omega, pf_45, by omega, rfl⟩, hop, by omega, by omega, rfl⟩, hB57, hB58, hB62, hvf_28⟩) hP hD hK hS dX12_works_637 hlocks
                          · exact absurd (by decide) c_44
                      · have kc_42 : j_11.toInt = j_17.toInt := by have h9 := x_tri j_11 j_17; (try simp only [Int64.reduceToInt] at h9); rcases h9 with ⟨g1, g2⟩ | ⟨g1, g2⟩ | ⟨g1, g2⟩ <;> first | omega | (exfalso; rw [g1] at c_42; revert c_42; decide)
                        refine lv_lload hx hb dX12_works_559 (lv_at hl 3 rfl) ?_
                        refine lv_lload hx hb dX12_works_561 (lv_at hl 1 rfl) ?_
                        refine W.lcmp hx hb dX12_works_563 ?_
                        refine lv_if_ne (tgt := 571) hx hb dX12_works_564 (by decide) (fun c_47 => ?_) (fun c_47 => ?_)
                        · have kc_47 : j_14.toInt ≠ j_20.toInt := by have h9 := x_tri j_14 j_20; (try simp only [Int64.reduceToInt] at h9); rcases h9 with ⟨g1, g2⟩ | ⟨g1, g2⟩ | ⟨g1, g2⟩ <;> first | omega | (exfalso; rw [g1] at c_47; revert c_47; decide)
                          refine lv_iconst (v := 0) hx hb dX12_works_571 (by decide) ?_
                          refine lv_istore (lv' := [(14, .int 0), (13, .int 0), (11, .long j_20), (9, .long j_17), (7, .long j_14), (5, .long j_11), (4, .int i_8), (3, .int i_5), (0, .ref (ad 1)), (1, .int 1), (2, .int 11)]) hx hb dX12_works_572 hl (by decide) rfl (fun ls hl => ?_)
                          refine lv_aload_n hx hb dX12_works_574 rfl (lv_at hl 8 rfl) ?_
                          refine va_get (D := D) (ci := 11) (v := .ref (ad 72)) (C := RX12) (T := TX12) (N := 85) hx hb hts inX12 hown hK hP 0 mwd_o0 rfl 72 (by decide) fl160 (fun _ h9 => h9) rfl dX12_works_575 ?_
                          refine lv_aload_n hx hb dX12_works_578 rfl (lv_at hl 8 rfl) ?_
                          refine va_get (D := D) (ci := 11) (v := .int i_30) (C := RX12) (T := TX12) (N := 85) hx hb hts inX12 hown hK hP 0 mwd_o0 rfl 73 (by decide) fl421 (fun _ h9 => h9) rfl dX12_works_579 ?_
                          refine lv_iload_n hx hb dX12_works_582 rfl (lv_at hl 10 rfl) ?_
                          refine lv_bipush (v := 11) hx hb dX12_works_583 (by decide) ?_
                          refine lv_icmp_ne (tgt := 596) hx hb dX12_works_585 (by decide) (fun c_48 => ?_) (fun c_48 => ?_)
                          · exact absurd (by decide) c_48
                          · refine lv_iload hx hb dX12_works_588 (lv_at hl 1 rfl) ?_
                            refine lv_if_eq (tgt := 624) hx hb dX12_works_590 (by decide) (fun c_49 => ?_) (fun c_49 => ?_)
                            · refine lv_iconst (v := 0) hx hb dX12_works_624 (by decide) ?_
                              refine va_iast hx hb hK hP hD hS 49 2 mwd_a49 rfl (x_in (by omega) (by omega)) dX12_works_625 (fun H locs hP hD hS => ?_)
                              obtain ⟨f_50, ef_50⟩ : ∃ z9 : Nat → Int32, z9 = (upd (σ.2.2.1 72) (Int32.toNatClampNeg i_30) 0) := ⟨_, rfl⟩
                              have hP : va_P D vwCl (mwd y ad zw (tI (sJ (sJ (sI (sJ (sJ (sI (tI (sI (tI (sI σ 44 0) 63 f_28) 73 i_30) 66 f_35) 44 n_36) 42 j_37) 43 j_38) 68 n_39) 69 j_40) 70 j_41) 72 f_50)) H := by rw [ef_50]; exact x_trP hP mwd_s49
                              have hD : va_D A (mwd y ad zw (tI (sJ (sJ (sI (sJ (sJ (sI (tI (sI (tI (sI σ 44 0) 63 f_28) 73 i_30) 66 f_35) 44 n_36) 42 j_37) 43 j_38) 68 n_39) 69 j_40) 70 j_41) 72 f_50)) := by rw [ef_50]; exact x_trD hD mwd_s49
                              have pf_50 : PT (false :: T) f_50 ((σ.2.2.1 62) 1).toInt := by rw [ef_50]; exact PT_pushF (PT_mono (by omega) hPT.2.2) (x_cl (by omega)) (by decide)
                              refine lv_aload_n hx hb dX12_works_626 rfl (lv_at hl 8 rfl) ?_
                              refine lv_dup hx hb dX12_works_627 rfl ?_
                              refine va_get (D := D) (ci := 11) (v := .int i_30) (C := RX12) (T := TX12) (N := 85) hx hb hts inX12 hown hK hP 0 mwd_o0 rfl 73 (by decide) fl421 (fun _ h9 => h9) rfl dX12_works_628 ?_
                              refine lv_iconst (v := 1) hx hb dX12_works_631 (by decide) ?_
                              refine lv_iadd hx hb dX12_works_632 ?_
                              refine lv_topi (fun i_51 ei_51 => ?_)
                              have vi_51 : i_51.toInt = i_30.toInt + 1 := by have h9 := x_add ei_51 (by omega) (by omega); omega
                              refine va_put (D := D) (ci := 11) (v := .int i_51) (ty := .int) (C := RX12) (T := TX12) (N := 85) hx hb hts inX12 tyX12 tyX12_ok nmX12 hown hK hP hD hS 0 mwd_o0 rfl 73 (by decide) fl421 (fun _ h9 => h9) rfl (by decide +kernel) rfl rfl (Nat.le_of_ble_eq_true rfl) dX12_works_633 (fun H locs hP hD hS => ?_)
                              have hP : va_P D vwCl (mwd y ad zw (sI (tI (sJ (sJ (sI (sJ (sJ (sI (tI (sI (tI (sI σ 44 0) 63 f_28) 73 i_30) 66 f_35) 44 n_36) 42 j_37) 43 j_38) 68 n_39) 69 j_40) 70 j_41) 72 f_50) 73 i_51)) H := x_trP hP mwd_p0_73
                              have hD : va_D A (mwd y ad zw (sI (tI (sJ (sJ (sI (sJ (sJ (sI (tI (sI (tI (sI σ 44 0) 63 f_28) 73 i_30) 66 f_35) 44 n_36) 42 j_37) 43 j_38) 68 n_39) 69 j_40) 70 j_41) 72 f_50) 73 i_51)) := x_trD hD mwd_p0_73
                              refine lv_iconst (v := 1) hx hb dX12_works_636 (by decide) ?_
                              have hP : va_P D vwCl (mwd y ad zw (tI (tI (tI (tI (tJ (tJ (sJ (sJ (sI (sJ (sJ (sI (tI (tI (tI (tI (sI σ 73 i_51) 72 f_50) 63 f_28) 67 (σ.2.2.1 67)) 66 f_35) 44 n_36) 42 j_37) 43 j_38) 68 n_39) 69 j_40) 70 j_41) 57 (σ.2.2.2 57)) 58 (σ.2.2.2 58)) 59 (σ.2.2.1 59)) 60 (σ.2.2.1 60)) 61 (σ.2.2.1 61)) 62 (σ.2.2.1 62))) H := hP
                              have hD : va_D A (mwd y ad zw (tI (tI (tI (tI (tJ (tJ (sJ (sJ (sI (sJ (sJ (sI (tI (tI (tI (tI (sI σ 73 i_51) 72 f_50) 63 f_28) 67 (σ.2.2.1 67)) 66 f_35) 44 n_36) 42 j_37) 43 j_38) 68 n_39) 69 j_40) 70 j_41) 57 (σ.2.2.2 57)) 58 (σ.2.2.2 58)) 59 (σ.2.2.1 59)) 60 (σ.2.2.1 60)) 61 (σ.2.2.1 61)) 62 (σ.2.2.1 62))) := hD
                              exact x_zretW (v := 1) (u := (i_51, f_50, f_28, (σ.2.2.1 67), f_35, n_36, j_37, j_38, n_39, j_40, j_41, (σ.2.2.2 57), (σ.2.2.2 58), (σ.2.2.1 59), (σ.2.2.1 60), (σ.2.2.1 61), (σ.2.2.1 62))) hx hb hr hQ rfl (by (try dsimp only); exact ⟨⟨Or.inr ⟨by omega, pf_50, by omega, rfl⟩, hop, by omega, by omega, rfl⟩, hB57, hB58, hB62, hvf_28⟩) hP hD hK hS dX12_works_637 hlocks
                            · exact absurd (by decide) c_49
                        · have kc_47 : j_14.toInt = j_20.toInt := by have h9 := x_tri j_14 j_20; (try simp only [Int64.reduceToInt] at h9); rcases h9 with ⟨g1, g2⟩ | ⟨g1, g2⟩ | ⟨g1, g2⟩ <;> first | omega | (exfalso; rw [g1] at c_47; revert c_47; decide)
                          refine lv_iconst (v := 1) hx hb dX12_works_567 (by decide) ?_
                          refine lv_goto (tgt := 572) hx hb dX12_works_568 (by decide) ?_
                          refine lv_istore (lv' := [(14, .int 1), (13, .int 0), (11, .long j_20), (9, .long j_17), (7, .long j_14), (5, .long j_11), (4, .int i_8), (3, .int i_5), (0, .ref (ad 1)), (1, .int 1), (2, .int 11)]) hx hb dX12_works_572 hl (by decide) rfl (fun ls hl => ?_)
                          refine lv_aload_n hx hb dX12_works_574 rfl (lv_at hl 8 rfl) ?_
                          refine va_get (D := D) (ci := 11) (v := .ref (ad 72)) (C := RX12) (T := TX12) (N := 85) hx hb hts inX12 hown hK hP 0 mwd_o0 rfl 72 (by decide) fl160 (fun _ h9 => h9) rfl dX12_works_575 ?_
                          refine lv_aload_n hx hb dX12_works_578 rfl (lv_at hl 8 rfl) ?_
                          refine va_get (D := D) (ci := 11) (v := .int i_30) (C := RX12) (T := TX12) (N := 85) hx hb hts inX12 hown hK hP 0 mwd_o0 rfl 73 (by decide) fl421 (fun _ h9 => h9) rfl dX12_works_579 ?_
                          refine lv_iload_n hx hb dX12_works_582 rfl (lv_at hl 10 rfl) ?_
                          refine lv_bipush (v := 11) hx hb dX12_works_583 (by decide) ?_
                          refine lv_icmp_ne (tgt := 596) hx hb dX12_works_585 (by decide) (fun c_52 => ?_) (fun c_52 => ?_)
                          · exact absurd (by decide) c_52
                          · refine lv_iload hx hb dX12_works_588 (lv_at hl 1 rfl) ?_
                            refine lv_if_eq (tgt := 624) hx hb dX12_works_590 (by decide) (fun c_53 => ?_) (fun c_53 => ?_)
                            · refine lv_iconst (v := 0) hx hb dX12_works_624 (by decide) ?_
                              refine va_iast hx hb hK hP hD hS 49 2 mwd_a49 rfl (x_in (by omega) (by omega)) dX12_works_625 (fun H locs hP hD hS => ?_)
                              obtain ⟨f_54, ef_54⟩ : ∃ z9 : Nat → Int32, z9 = (upd (σ.2.2.1 72) (Int32.toNatClampNeg i_30) 0) := ⟨_, rfl⟩
                              have hP : va_P D vwCl (mwd y ad zw (tI (sJ (sJ (sI (sJ (sJ (sI (tI (sI (tI (sI σ 44 0) 63 f_28) 73 i_30) 66 f_35) 44 n_36) 42 j_37) 43 j_38) 68 n_39) 69 j_40) 70 j_41) 72 f_54)) H := by rw [ef_54]; exact x_trP hP mwd_s49
                              have hD : va_D A (mwd y ad zw (tI (sJ (sJ (sI (sJ (sJ (sI (tI (sI (tI (sI σ 44 0) 63 f_28) 73 i_30) 66 f_35) 44 n_36) 42 j_37) 43 j_38) 68 n_39) 69 j_40) 70 j_41) 72 f_54)) := by rw [ef_54]; exact x_trD hD mwd_s49
                              have pf_54 : PT (false :: T) f_54 ((σ.2.2.1 62) 1).toInt := by rw [ef_54]; exact PT_pushF (PT_mono (by omega) hPT.2.2) (x_cl (by omega)) (by decide)
                              refine lv_aload_n hx hb dX12_works_626 rfl (lv_at hl 8 rfl) ?_
                              refine lv_dup hx hb dX12_works_627 rfl ?_
                              refine va_get (D := D) (ci := 11) (v := .int i_30) (C := RX12) (T := TX12) (N := 85) hx hb hts inX12 hown hK hP 0 mwd_o0 rfl 73 (by decide) fl421 (fun _ h9 => h9) rfl dX12_works_628 ?_
                              refine lv_iconst (v := 1) hx hb dX12_works_631 (by decide) ?_
                              refine lv_iadd hx hb dX12_works_632 ?_
                              refine lv_topi (fun i_55 ei_55 => ?_)
                              have vi_55 : i_55.toInt = i_30.toInt + 1 := by have h9 := x_add ei_55 (by omega) (by omega); omega
                              refine va_put (D := D) (ci := 11) (v := .int i_55) (ty := .int) (C := RX12) (T := TX12) (N := 85) hx hb hts inX12 tyX12 tyX12_ok nmX12 hown hK hP hD hS 0 mwd_o0 rfl 73 (by decide) fl421 (fun _ h9 => h9) rfl (by decide +kernel) rfl rfl (Nat.le_of_ble_eq_true rfl) dX12_works_633 (fun H locs hP hD hS => ?_)
                              have hP : va_P D vwCl (mwd y ad zw (sI (tI (sJ (sJ (sI (sJ (sJ (sI (tI (sI (tI (sI σ 44 0) 63 f_28) 73 i_30) 66 f_35) 44 n_36) 42 j_37) 43 j_38) 68 n_39) 69 j_40) 70 j_41) 72 f_54) 73 i_55)) H := x_trP hP mwd_p0_73
                              have hD : va_D A (mwd y ad zw (sI (tI (sJ (sJ (sI (sJ (sJ (sI (tI (sI (tI (sI σ 44 0) 63 f_28) 73 i_30) 66 f_35) 44 n_36) 42 j_37) 43 j_38) 68 n_39) 69 j_40) 70 j_41) 72 f_54) 73 i_55)) := x_trD hD mwd_p0_73
                              refine lv_iconst (v := 1) hx hb dX12_works_636 (by decide) ?_
                              have hP : va_P D vwCl (mwd y ad zw (tI (tI (tI (tI (tJ (tJ (sJ (sJ (sI (sJ (sJ (sI (tI (tI (tI (tI (sI σ 73 i_55) 72 f_54) 63 f_28) 67 (σ.2.2.1 67)) 66 f_35) 44 n_36) 42 j_37) 43 j_38) 68 n_39) 69 j_40) 70 j_41) 57 (σ.2.2.2 57)) 58 (σ.2.2.2 58)) 59 (σ.2.2.1 59)) 60 (σ.2.2.1 60)) 61 (σ.2.2.1 61)) 62 (σ.2.2.1 62))) H := hP
                              have hD : va_D A (mwd y ad zw (tI (tI (tI (tI (tJ (tJ (sJ (sJ (sI (sJ (sJ (sI (tI (tI (tI (tI (sI σ 73 i_55) 72 f_54) 63 f_28) 67 (σ.2.2.1 67)) 66 f_35) 44 n_36) 42 j_37) 43 j_38) 68 n_39) 69 j_40) 70 j_41) 57 (σ.2.2.2 57)) 58 (σ.2.2.2 58)) 59 (σ.2.2.1 59)) 60 (σ.2.2.1 60)) 61 (σ.2.2.1 61)) 62 (σ.2.2.1 62))) := hD
                              exact x_zretW (v := 1) (u := (i_55, f_54, f_28, (σ.2.2.1 67), f_35, n_36, j_37, j_38, n_39, j_40, j_41, (σ.2.2.2 57), (σ.2.2.2 58), (σ.2.2.1 59), (σ.2.2.1 60), (σ.2.2.1 61), (σ.2.2.1 62))) hx hb hr hQ rfl (by (try dsimp only); exact ⟨⟨Or.inr ⟨by omega, pf_54, by omega, rfl⟩, hop, by omega, by omega, rfl⟩, hB57, hB58, hB62, hvf_28⟩) hP hD hK hS dX12_works_637 hlocks
                            · exact absurd (by decide) c_53
                    · exact absurd c_34 (by decide)
                · exact absurd c_32 (by decide)
              · exact absurd (by decide) c_31
            · exact absurd c_29 (by decide)
          · exact absurd (by decide) c_25
        · have kc_23 : j_21.toInt < j_22.toInt := by have h9 := x_tri j_21 j_22; (try simp only [Int64.reduceToInt] at h9); rcases h9 with ⟨g1, g2⟩ | ⟨g1, g2⟩ | ⟨g1, g2⟩ <;> first | omega | (exfalso; rw [g1] at c_23; revert c_23; decide)
          refine lv_iconst (v := 1) hx hb dX12_works_148 (by decide) ?_
          refine lv_goto (tgt := 153) hx hb dX12_works_149 (by decide) ?_
          refine lv_istore (lv' := [(13, .int 1), (11, .long j_20), (9, .long j_17), (7, .long j_14), (5, .long j_11), (4, .int i_8), (3, .int i_5), (0, .ref (ad 1)), (1, .int 1), (2, .int 11)]) hx hb dX12_works_153 hl (by decide) rfl (fun ls hl => ?_)
          refine lv_aload_n hx hb dX12_works_155 rfl (lv_at hl 7 rfl) ?_
          refine lv_iconst (v := 0) hx hb dX12_works_156 (by decide) ?_
          refine va_put (D := D) (ci := 11) (v := .int 0) (ty := .boolean) (C := RX12) (T := TX12) (N := 85) hx hb hts inX12 tyX12 tyX12_ok nmX12 hown hK hP hD hS 0 mwd_o0 rfl 44 (by decide) fl384 (fun _ h9 => h9) rfl (by decide +kernel) rfl rfl (Nat.le_of_ble_eq_true rfl) dX12_works_157 (fun H locs hP hD hS => ?_)
          have hP : va_P D vwCl (mwd y ad zw (sI σ 44 0)) H := x_trP hP mwd_p0_44
          have hD : va_D A (mwd y ad zw (sI σ 44 0)) := x_trD hD mwd_p0_44
          refine lv_iload_n hx hb dX12_works_160 rfl (lv_at hl 9 rfl) ?_
          refine lv_tableOut (tgt := 252) hx hb dX12_works_161 (by decide) (by decide) ?_
          refine lv_aload_n hx hb dX12_works_252 rfl (lv_at hl 7 rfl) ?_
          refine va_get (D := D) (ci := 11) (v := .int 0) (C := RX12) (T := TX12) (N := 85) hx hb hts inX12 hown hK hP 0 mwd_o0 rfl 44 (by decide) fl384 (fun _ h9 => h9) rfl dX12_works_253 ?_
          refine lv_if_eq (tgt := 268) hx hb dX12_works_256 (by decide) (fun c_57 => ?_) (fun c_57 => ?_)
          · refine lv_aload_n hx hb dX12_works_268 rfl (lv_at hl 7 rfl) ?_
            refine va_get (D := D) (ci := 11) (v := .ref (ad 63)) (C := RX12) (T := TX12) (N := 85) hx hb hts inX12 hown hK hP 0 mwd_o0 rfl 63 (by decide) fl142 (fun _ h9 => h9) rfl dX12_works_269 ?_
            refine lv_iload_n hx hb dX12_works_272 rfl (lv_at hl 8 rfl) ?_
            refine lv_dup2_11 hx hb dX12_works_273 rfl rfl ?_
            refine va_iald hx hb hK hP 43 2 mwd_a43 rfl (x_in (by decide) (by decide)) dX12_works_274 ?_
            refine lv_topi (fun i_58 ei_58 => ?_)
            have ei_58 : i_58 = (σ.2.2.1 63) (Int32.toNatClampNeg 1) := ei_58
            have gi_58 : i_58.toInt = (σ.2.2.1 63 1).toInt := by rw [ei_58]; rfl
            have bi_58 := b_at hB63 ei_58
            refine lv_iconst (v := 1) hx hb dX12_works_275 (by decide) ?_
            refine lv_iadd hx hb dX12_works_276 ?_
            refine lv_topi (fun i_59 ei_59 => ?_)
            have vi_59 : i_59.toInt = i_58.toInt + 1 := by have h9 := x_add ei_59 (by omega) (by omega); omega
            refine va_iast hx hb hK hP hD hS 43 2 mwd_a43 rfl (x_in (by decide) (by decide)) dX12_works_277 (fun H locs hP hD hS => ?_)
            obtain ⟨f_60, ef_60⟩ : ∃ z9 : Nat → Int32, z9 = (upd (σ.2.2.1 63) (Int32.toNatClampNeg 1) i_59) := ⟨_, rfl⟩
            have hP : va_P D vwCl (mwd y ad zw (tI (sI σ 44 0) 63 f_60)) H := by rw [ef_60]; exact x_trP hP mwd_s43
            have hD : va_D A (mwd y ad zw (tI (sI σ 44 0) 63 f_60)) := by rw [ef_60]; exact x_trD hD mwd_s43
            have hvf_60 : bI f_60 0 1000 := by rw [ef_60]; exact b_upd hB63 (by omega) (by omega)
            have sf_60 : (f_60 1).toInt = i_59.toInt := by rw [ef_60]; exact congrArg Int32.toInt (x_upd_same _ 1 _)
            refine lv_aload_n hx hb dX12_works_278 rfl (lv_at hl 7 rfl) ?_
            refine lv_dup hx hb dX12_works_279 rfl ?_
            refine va_get (D := D) (ci := 11) (v := .int (σ.1 73)) (C := RX12) (T := TX12) (N := 85) hx hb hts inX12 hown hK hP 0 mwd_o0 rfl 73 (by decide) fl421 (fun _ h9 => h9) rfl dX12_works_280 ?_
            refine lv_iload_n hx hb dX12_works_283 rfl (lv_at hl 9 rfl) ?_
            refine lv_bipush (v := 7) hx hb dX12_works_284 (by decide) ?_
            refine lv_icmp_ne (tgt := 293) hx hb dX12_works_286 (by decide) (fun c_61 => ?_) (fun c_61 => ?_)
            · refine lv_iconst (v := 2) hx hb dX12_works_293 (by decide) ?_
              refine lv_isub hx hb dX12_works_294 ?_
              refine lv_topi (fun i_62 ei_62 => ?_)
              have vi_62 : i_62.toInt = (σ.1 73).toInt - 2 := by have h9 := x_sub ei_62 (by omega) (by omega); omega
              refine va_put (D := D) (ci := 11) (v := .int i_62) (ty := .int) (C := RX12) (T := TX12) (N := 85) hx hb hts inX12 tyX12 tyX12_ok nmX12 hown hK hP hD hS 0 mwd_o0 rfl 73 (by decide) fl421 (fun _ h9 => h9) rfl (by decide +kernel) rfl rfl (Nat.le_of_ble_eq_true rfl) dX12_works_295 (fun H locs hP hD hS => ?_)
              have hP : va_P D vwCl (mwd y ad zw (sI (tI (sI σ 44 0) 63 f_60) 73 i_62)) H := x_trP hP mwd_p0_73
              have hD : va_D A (mwd y ad zw (sI (tI (sI σ 44 0) 63 f_60) 73 i_62)) := x_trD hD mwd_p0_73
              refine lv_iload_n hx hb dX12_works_298 rfl (lv_at hl 9 rfl) ?_
              refine lv_iconst (v := 4) hx hb dX12_works_299 (by decide) ?_
              refine lv_icmp_gt (tgt := 340) hx hb dX12_works_300 (by decide) (fun c_63 => ?_) (fun c_63 => ?_)
              · refine lv_iload_n hx hb dX12_works_340 rfl (lv_at hl 9 rfl) ?_
                refine lv_bipush (v := 7) hx hb dX12_works_341 (by decide) ?_
                refine lv_icmp_ne (tgt := 394) hx hb dX12_works_343 (by decide) (fun c_64 => ?_) (fun c_64 => ?_)
                · refine lv_iload_n hx hb dX12_works_394 rfl (lv_at hl 9 rfl) ?_
                  refine lv_iconst (v := 5) hx hb dX12_works_395 (by decide) ?_
                  refine lv_icmp_eq (tgt := 405) hx hb dX12_works_396 (by decide) (fun c_65 => ?_) (fun c_65 => ?_)
                  · exact absurd c_65 (by decide)
                  · refine lv_iload_n hx hb dX12_works_399 rfl (lv_at hl 9 rfl) ?_
                    refine lv_bipush (v := 6) hx hb dX12_works_400 (by decide) ?_
                    refine lv_icmp_ne (tgt := 538) hx hb dX12_works_402 (by decide) (fun c_66 => ?_) (fun c_66 => ?_)
                    · refine lv_aload_n hx hb dX12_works_538 rfl (lv_at hl 7 rfl) ?_
                      refine lv_iload_n hx hb dX12_works_539 rfl (lv_at hl 8 rfl) ?_
                      refine lv_lload hx hb dX12_works_540 (lv_at hl 4 rfl) ?_
                      refine lv_lload hx hb dX12_works_542 (lv_at hl 3 rfl) ?_
                      refine lv_lload hx hb dX12_works_544 (lv_at hl 2 rfl) ?_
                      refine lv_lload hx hb dX12_works_546 (lv_at hl 1 rfl) ?_
                      refine x_callvW (va_runV (As := [.int 1, .long j_11, .long j_14, .long j_17, .long j_20]) (rest := []) ⟨hx, hb, hml, hown, hts⟩ (q_nears1 l D y H.size ad zw (sI (tI (sI σ 44 0) 63 f_60) 73 i_62) j_11 j_14 j_17 j_20 (by first | omega | decide) (by first | omega | decide) (by first | omega | decide) (by first | omega | decide) (by first | omega | decide) (by first | omega | decide) (by first | omega | decide) (by first | omega | decide)) (cwV 5 hts g_q_works1_11_0 rfl rfl rfl (by decide +kernel) ⟨Nat.le_of_ble_eq_true rfl, Nat.le_of_ble_eq_true rfl⟩) (x_preV (q := (RX12, TX12, 85)) hK hP hD (ci := 11) (q0 := 0) rfl mwd_o0) rfl rfl hl.1 rfl (lv_room (Nat.le_of_ble_eq_true rfl)) dX12_works_548 ⟨Nat.le_of_ble_eq_true rfl, Nat.le_of_ble_eq_true rfl⟩) hP hD hS hA (fun u H locs hw hP hD hS => ?_)
                      obtain ⟨f_67, n_68, j_69, j_70, n_71, j_72, j_73⟩ := u
                      try dsimp only at hw
                      have hP : va_P D vwCl (mwd y ad zw (sJ (sJ (sI (sJ (sJ (sI (tI (sI (tI (sI σ 44 0) 63 f_60) 73 i_62) 66 f_67) 44 n_68) 42 j_69) 43 j_70) 68 n_71) 69 j_72) 70 j_73)) H := hP
                      have hD : va_D A (mwd y ad zw (sJ (sJ (sI (sJ (sJ (sI (tI (sI (tI (sI σ 44 0) 63 f_60) 73 i_62) 66 f_67) 44 n_68) 42 j_69) 43 j_70) 68 n_71) 69 j_72) 70 j_73)) := hD
                      have hw : True := hw
                      refine lv_lload hx hb dX12_works_551 (lv_at hl 4 rfl) ?_
                      refine lv_lload hx hb dX12_works_553 (lv_at hl 2 rfl) ?_
                      refine W.lcmp hx hb dX12_works_555 ?_
                      refine lv_if_ne (tgt := 571) hx hb dX12_works_556 (by decide) (fun c_74 => ?_) (fun c_74 => ?_)
                      · have kc_74 : j_11.toInt ≠ j_17.toInt := by have h9 := x_tri j_11 j_17; (try simp only [Int64.reduceToInt] at h9); rcases h9 with ⟨g1, g2⟩ | ⟨g1, g2⟩ | ⟨g1, g2⟩ <;> first | omega | (exfalso; rw [g1] at c_74; revert c_74; decide)
                        refine lv_iconst (v := 0) hx hb dX12_works_571 (by decide) ?_
                        refine lv_istore (lv' := [(14, .int 0), (13, .int 1), (11, .long j_20), (9, .long j_17), (7, .long j_14), (5, .long j_11), (4, .int i_8), (3, .int i_5), (0, .ref (ad 1)), (1, .int 1), (2, .int 11)]) hx hb dX12_works_572 hl (by decide) rfl (fun ls hl => ?_)
                        refine lv_aload_n hx hb dX12_works_574 rfl (lv_at hl 8 rfl) ?_
                        refine va_get (D := D) (ci := 11) (v := .ref (ad 72)) (C := RX12) (T := TX12) (N := 85) hx hb hts inX12 hown hK hP 0 mwd_o0 rfl 72 (by decide) fl160 (fun _ h9 => h9) rfl dX12_works_575 ?_
                        refine lv_aload_n hx hb dX12_works_578 rfl (lv_at hl 8 rfl) ?_
                        refine va_get (D := D) (ci := 11) (v := .int i_62) (C := RX12) (T := TX12) (N := 85) hx hb hts inX12 hown hK hP 0 mwd_o0 rfl 73 (by decide) fl421 (fun _ h9 => h9) rfl dX12_works_579 ?_
                        refine lv_iload_n hx hb dX12_works_582 rfl (lv_at hl 10 rfl) ?_
                        refine lv_bipush (v := 11) hx hb dX12_works_583 (by decide) ?_
                        refine lv_icmp_ne (tgt := 596) hx hb dX12_works_585 (by decide) (fun c_75 => ?_) (fun c_75 => ?_)
                        · exact absurd (by decide) c_75
                        · refine lv_iload hx hb dX12_works_588 (lv_at hl 1 rfl) ?_
                          refine lv_if_eq (tgt := 624) hx hb dX12_works_590 (by decide) (fun c_76 => ?_) (fun c_76 => ?_)
                          · exact absurd c_76 (by decide)
                          · refine lv_goto (tgt := 620) hx hb dX12_works_593 (by decide) ?_
                            refine lv_iconst (v := 1) hx hb dX12_works_620 (by decide) ?_
                            refine lv_goto (tgt := 625) hx hb dX12_works_621 (by decide) ?_
                            refine va_iast hx hb hK hP hD hS 49 2 mwd_a49 rfl (x_in (by omega) (by omega)) dX12_works_625 (fun H locs hP hD hS => ?_)
                            obtain ⟨f_77, ef_77⟩ : ∃ z9 : Nat → Int32, z9 = (upd (σ.2.2.1 72) (Int32.toNatClampNeg i_62) 1) := ⟨_, rfl⟩
                            have hP : va_P D vwCl (mwd y ad zw (tI (sJ (sJ (sI (sJ (sJ (sI (tI (sI (tI (sI σ 44 0) 63 f_60) 73 i_62) 66 f_67) 44 n_68) 42 j_69) 43 j_70) 68 n_71) 69 j_72) 70 j_73) 72 f_77)) H := by rw [ef_77]; exact x_trP hP mwd_s49
                            have hD : va_D A (mwd y ad zw (tI (sJ (sJ (sI (sJ (sJ (sI (tI (sI (tI (sI σ 44 0) 63 f_60) 73 i_62) 66 f_67) 44 n_68) 42 j_69) 43 j_70) 68 n_71) 69 j_72) 70 j_73) 72 f_77)) := by rw [ef_77]; exact x_trD hD mwd_s49
                            have pf_77 : PT (false :: T) f_77 ((σ.2.2.1 62) 1).toInt := by rw [ef_77]; exact PT_pushF (PT_mono (by omega) hPT.2.2) (x_cl (by omega)) (by decide)
                            refine lv_aload_n hx hb dX12_works_626 rfl (lv_at hl 8 rfl) ?_
                            refine lv_dup hx hb dX12_works_627 rfl ?_
                            refine va_get (D := D) (ci := 11) (v := .int i_62) (C := RX12) (T := TX12) (N := 85) hx hb hts inX12 hown hK hP 0 mwd_o0 rfl 73 (by decide) fl421 (fun _ h9 => h9) rfl dX12_works_628 ?_
                            refine lv_iconst (v := 1) hx hb dX12_works_631 (by decide) ?_
                            refine lv_iadd hx hb dX12_works_632 ?_
                            refine lv_topi (fun i_78 ei_78 => ?_)
                            have vi_78 : i_78.toInt = i_62.toInt + 1 := by have h9 := x_add ei_78 (by omega) (by omega); omega
                            refine va_put (D := D) (ci := 11) (v := .int i_78) (ty := .int) (C := RX12) (T := TX12) (N := 85) hx hb hts inX12 tyX12 tyX12_ok nmX12 hown hK hP hD hS 0 mwd_o0 rfl 73 (by decide) fl421 (fun _ h9 => h9) rfl (by decide +kernel) rfl rfl (Nat.le_of_ble_eq_true rfl) dX12_works_633 (fun H locs hP hD hS => ?_)
                            have hP : va_P D vwCl (mwd y ad zw (sI (tI (sJ (sJ (sI (sJ (sJ (sI (tI (sI (tI (sI σ 44 0) 63 f_60) 73 i_62) 66 f_67) 44 n_68) 42 j_69) 43 j_70) 68 n_71) 69 j_72) 70 j_73) 72 f_77) 73 i_78)) H := x_trP hP mwd_p0_73
                            have hD : va_D A (mwd y ad zw (sI (tI (sJ (sJ (sI (sJ (sJ (sI (tI (sI (tI (sI σ 44 0) 63 f_60) 73 i_62) 66 f_67) 44 n_68) 42 j_69) 43 j_70) 68 n_71) 69 j_72) 70 j_73) 72 f_77) 73 i_78)) := x_trD hD mwd_p0_73
                            refine lv_iconst (v := 1) hx hb dX12_works_636 (by decide) ?_
                            have hP : va_P D vwCl (mwd y ad zw (tI (tI (tI (tI (tJ (tJ (sJ (sJ (sI (sJ (sJ (sI (tI (tI (tI (tI (sI σ 73 i_78) 72 f_77) 63 f_60) 67 (σ.2.2.1 67)) 66 f_67) 44 n_68) 42 j_69) 43 j_70) 68 n_71) 69 j_72) 70 j_73) 57 (σ.2.2.2 57)) 58 (σ.2.2.2 58)) 59 (σ.2.2.1 59)) 60 (σ.2.2.1 60)) 61 (σ.2.2.1 61)) 62 (σ.2.2.1 62))) H := hP
                            have hD : va_D A (mwd y ad zw (tI (tI (tI (tI (tJ (tJ (sJ (sJ (sI (sJ (sJ (sI (tI (tI (tI (tI (sI σ 73 i_78) 72 f_77) 63 f_60) 67 (σ.2.2.1 67)) 66 f_67) 44 n_68) 42 j_69) 43 j_70) 68 n_71) 69 j_72) 70 j_73) 57 (σ.2.2.2 57)) 58 (σ.2.2.2 58)) 59 (σ.2.2.1 59)) 60 (σ.2.2.1 60)) 61 (σ.2.2.1 61)) 62 (σ.2.2.1 62))) := hD
                            exact x_zretW (v := 1) (u := (i_78, f_77, f_60, (σ.2.2.1 67), f_67, n_68, j_69, j_70, n_71, j_72, j_73, (σ.2.2.2 57), (σ.2.2.2 58), (σ.2.2.1 59), (σ.2.2.1 60), (σ.2.2.1 61), (σ.2.2.1 62))) hx hb hr hQ rfl (by (try dsimp only); exact ⟨⟨Or.inr ⟨by omega, pf_77, by omega, rfl⟩, hop, by omega, by omega, rfl⟩, hB57, hB58, hB62, hvf_60⟩) hP hD hK hS dX12_works_637 hlocks
                      · have kc_74 : j_11.toInt = j_17.toInt := by have h9 := x_tri j_11 j_17; (try simp only [Int64.reduceToInt] at h9); rcases h9 with ⟨g1, g2⟩ | ⟨g1, g2⟩ | ⟨g1, g2⟩ <;> first | omega | (exfalso; rw [g1] at c_74; revert c_74; decide)
                        refine lv_lload hx hb dX12_works_559 (lv_at hl 3 rfl) ?_
                        refine lv_lload hx hb dX12_works_561 (lv_at hl 1 rfl) ?_
                        refine W.lcmp hx hb dX12_works_563 ?_
                        refine lv_if_ne (tgt := 571) hx hb dX12_works_564 (by decide) (fun c_79 => ?_) (fun c_79 => ?_)
                        · have kc_79 : j_14.toInt ≠ j_20.toInt := by have h9 := x_tri j_14 j_20; (try simp only [Int64.reduceToInt] at h9); rcases h9 with ⟨g1, g2⟩ | ⟨g1, g2⟩ | ⟨g1, g2⟩ <;> first | omega | (exfalso; rw [g1] at c_79; revert c_79; decide)
                          refine lv_iconst (v := 0) hx hb dX12_works_571 (by decide) ?_
                          refine lv_istore (lv' := [(14, .int 0), (13, .int 1), (11, .long j_20), (9, .long j_17), (7, .long j_14), (5, .long j_11), (4, .int i_8), (3, .int i_5), (0, .ref (ad 1)), (1, .int 1), (2, .int 11)]) hx hb dX12_works_572 hl (by decide) rfl (fun ls hl => ?_)
                          refine lv_aload_n hx hb dX12_works_574 rfl (lv_at hl 8 rfl) ?_
                          refine va_get (D := D) (ci := 11) (v := .ref (ad 72)) (C := RX12) (T := TX12) (N := 85) hx hb hts inX12 hown hK hP 0 mwd_o0 rfl 72 (by decide) fl160 (fun _ h9 => h9) rfl dX12_works_575 ?_
                          refine lv_aload_n hx hb dX12_works_578 rfl (lv_at hl 8 rfl) ?_
                          refine va_get (D := D) (ci := 11) (v := .int i_62) (C := RX12) (T := TX12) (N := 85) hx hb hts inX12 hown hK hP 0 mwd_o0 rfl 73 (by decide) fl421 (fun _ h9 => h9) rfl dX12_works_579 ?_
                          refine lv_iload_n hx hb dX12_works_582 rfl (lv_at hl 10 rfl) ?_
                          refine lv_bipush (v := 11) hx hb dX12_works_583 (by decide) ?_
                          refine lv_icmp_ne (tgt := 596) hx hb dX12_works_585 (by decide) (fun c_80 => ?_) (fun c_80 => ?_)
                          · exact absurd (by decide) c_80
                          · refine lv_iload hx hb dX12_works_588 (lv_at hl 1 rfl) ?_
                            refine lv_if_eq (tgt := 624) hx hb dX12_works_590 (by decide) (fun c_81 => ?_) (fun c_81 => ?_)
                            · exact absurd c_81 (by decide)
                            · refine lv_goto (tgt := 620) hx hb dX12_works_593 (by decide) ?_
                              refine lv_iconst (v := 1) hx hb dX12_works_620 (by decide) ?_
                              refine lv_goto (tgt := 625) hx hb dX12_works_621 (by decide) ?_
                              refine va_iast hx hb hK hP hD hS 49 2 mwd_a49 rfl (x_in (by omega) (by omega)) dX12_works_625 (fun H locs hP hD hS => ?_)
                              obtain ⟨f_82, ef_82⟩ : ∃ z9 : Nat → Int32, z9 = (upd (σ.2.2.1 72) (Int32.toNatClampNeg i_62) 1) := ⟨_, rfl⟩
                              have hP : va_P D vwCl (mwd y ad zw (tI (sJ (sJ (sI (sJ (sJ (sI (tI (sI (tI (sI σ 44 0) 63 f_60) 73 i_62) 66 f_67) 44 n_68) 42 j_69) 43 j_70) 68 n_71) 69 j_72) 70 j_73) 72 f_82)) H := by rw [ef_82]; exact x_trP hP mwd_s49
                              have hD : va_D A (mwd y ad zw (tI (sJ (sJ (sI (sJ (sJ (sI (tI (sI (tI (sI σ 44 0) 63 f_60) 73 i_62) 66 f_67) 44 n_68) 42 j_69) 43 j_70) 68 n_71) 69 j_72) 70 j_73) 72 f_82)) := by rw [ef_82]; exact x_trD hD mwd_s49
                              have pf_82 : PT (false :: T) f_82 ((σ.2.2.1 62) 1).toInt := by rw [ef_82]; exact PT_pushF (PT_mono (by omega) hPT.2.2) (x_cl (by omega)) (by decide)
                              refine lv_aload_n hx hb dX12_works_626 rfl (lv_at hl 8 rfl) ?_
                              refine lv_dup hx hb dX12_works_627 rfl ?_
                              refine va_get (D := D) (ci := 11) (v := .int i_62) (C := RX12) (T := TX12) (N := 85) hx hb hts inX12 hown hK hP 0 mwd_o0 rfl 73 (by decide) fl421 (fun _ h9 => h9) rfl dX12_works_628 ?_
                              refine lv_iconst (v := 1) hx hb dX12_works_631 (by decide) ?_
                              refine lv_iadd hx hb dX12_works_632 ?_
                              refine lv_topi (fun i_83 ei_83 => ?_)
                              have vi_83 : i_83.toInt = i_62.toInt + 1 := by have h9 := x_add ei_83 (by omega) (by omega); omega
                              refine va_put (D := D) (ci := 11) (v := .int i_83) (ty := .int) (C := RX12) (T := TX12) (N := 85) hx hb hts inX12 tyX12 tyX12_ok nmX12 hown hK hP hD hS 0 mwd_o0 rfl 73 (by decide) fl421 (fun _ h9 => h9) rfl (by decide +kernel) rfl rfl (Nat.le_of_ble_eq_true rfl) dX12_works_633 (fun H locs hP hD hS => ?_)
                              have hP : va_P D vwCl (mwd y ad zw (sI (tI (sJ (sJ (sI (sJ (sJ (sI (tI (sI (tI (sI σ 44 0) 63 f_60) 73 i_62) 66 f_67) 44 n_68) 42 j_69) 43 j_70) 68 n_71) 69 j_72) 70 j_73) 72 f_82) 73 i_83)) H := x_trP hP mwd_p0_73
                              have hD : va_D A (mwd y ad zw (sI (tI (sJ (sJ (sI (sJ (sJ (sI (tI (sI (tI (sI σ 44 0) 63 f_60) 73 i_62) 66 f_67) 44 n_68) 42 j_69) 43 j_70) 68 n_71) 69 j_72) 70 j_73) 72 f_82) 73 i_83)) := x_trD hD mwd_p0_73
                              refine lv_iconst (v := 1) hx hb dX12_works_636 (by decide) ?_
                              have hP : va_P D vwCl (mwd y ad zw (tI (tI (tI (tI (tJ (tJ (sJ (sJ (sI (sJ (sJ (sI (tI (tI (tI (tI (sI σ 73 i_83) 72 f_82) 63 f_60) 67 (σ.2.2.1 67)) 66 f_67) 44 n_68) 42 j_69) 43 j_70) 68 n_71) 69 j_72) 70 j_73) 57 (σ.2.2.2 57)) 58 (σ.2.2.2 58)) 59 (σ.2.2.1 59)) 60 (σ.2.2.1 60)) 61 (σ.2.2.1 61)) 62 (σ.2.2.1 62))) H := hP
                              have hD : va_D A (mwd y ad zw (tI (tI (tI (tI (tJ (tJ (sJ (sJ (sI (sJ (sJ (sI (tI (tI (tI (tI (sI σ 73 i_83) 72 f_82) 63 f_60) 67 (σ.2.2.1 67)) 66 f_67) 44 n_68) 42 j_69) 43 j_70) 68 n_71) 69 j_72) 70 j_73) 57 (σ.2.2.2 57)) 58 (σ.2.2.2 58)) 59 (σ.2.2.1 59)) 60 (σ.2.2.1 60)) 61 (σ.2.2.1 61)) 62 (σ.2.2.1 62))) := hD
                              exact x_zretW (v := 1) (u := (i_83, f_82, f_60, (σ.2.2.1 67), f_67, n_68, j_69, j_70, n_71, j_72, j_73, (σ.2.2.2 57), (σ.2.2.2 58), (σ.2.2.1 59), (σ.2.2.1 60), (σ.2.2.1 61), (σ.2.2.1 62))) hx hb hr hQ rfl (by (try dsimp only); exact ⟨⟨Or.inr ⟨by omega, pf_82, by omega, rfl⟩, hop, by omega, by omega, rfl⟩, hB57, hB58, hB62, hvf_60⟩) hP hD hK hS dX12_works_637 hlocks
                        · have kc_79 : j_14.toInt = j_20.toInt := by have h9 := x_tri j_14 j_20; (try simp only [Int64.reduceToInt] at h9); rcases h9 with ⟨g1, g2⟩ | ⟨g1, g2⟩ | ⟨g1, g2⟩ <;> first | omega | (exfalso; rw [g1] at c_79; revert c_79; decide)
                          refine lv_iconst (v := 1) hx hb dX12_works_567 (by decide) ?_
                          refine lv_goto (tgt := 572) hx hb dX12_works_568 (by decide) ?_
                          refine lv_istore (lv' := [(14, .int 1), (13, .int 1), (11, .long j_20), (9, .long j_17), (7, .long j_14), (5, .long j_11), (4, .int i_8), (3, .int i_5), (0, .ref (ad 1)), (1, .int 1), (2, .int 11)]) hx hb dX12_works_572 hl (by decide) rfl (fun ls hl => ?_)
                          refine lv_aload_n hx hb dX12_works_574 rfl (lv_at hl 8 rfl) ?_
                          refine va_get (D := D) (ci := 11) (v := .ref (ad 72)) (C := RX12) (T := TX12) (N := 85) hx hb hts inX12 hown hK hP 0 mwd_o0 rfl 72 (by decide) fl160 (fun _ h9 => h9) rfl dX12_works_575 ?_
                          refine lv_aload_n hx hb dX12_works_578 rfl (lv_at hl 8 rfl) ?_
                          refine va_get (D := D) (ci := 11) (v := .int i_62) (C := RX12) (T := TX12) (N := 85) hx hb hts inX12 hown hK hP 0 mwd_o0 rfl 73 (by decide) fl421 (fun _ h9 => h9) rfl dX12_works_579 ?_
                          refine lv_iload_n hx hb dX12_works_582 rfl (lv_at hl 10 rfl) ?_
                          refine lv_bipush (v := 11) hx hb dX12_works_583 (by decide) ?_
                          refine lv_icmp_ne (tgt := 596) hx hb dX12_works_585 (by decide) (fun c_84 => ?_) (fun c_84 => ?_)
                          · exact absurd (by decide) c_84
                          · refine lv_iload hx hb dX12_works_588 (lv_at hl 1 rfl) ?_
                            refine lv_if_eq (tgt := 624) hx hb dX12_works_590 (by decide) (fun c_85 => ?_) (fun c_85 => ?_)
                            · exact absurd c_85 (by decide)
                            · refine lv_goto (tgt := 620) hx hb dX12_works_593 (by decide) ?_
                              refine lv_iconst (v := 1) hx hb dX12_works_620 (by decide) ?_
                              refine lv_goto (tgt := 625) hx hb dX12_works_621 (by decide) ?_
                              refine va_iast hx hb hK hP hD hS 49 2 mwd_a49 rfl (x_in (by omega) (by omega)) dX12_works_625 (fun H locs hP hD hS => ?_)
                              obtain ⟨f_86, ef_86⟩ : ∃ z9 : Nat → Int32, z9 = (upd (σ.2.2.1 72) (Int32.toNatClampNeg i_62) 1) := ⟨_, rfl⟩
                              have hP : va_P D vwCl (mwd y ad zw (tI (sJ (sJ (sI (sJ (sJ (sI (tI (sI (tI (sI σ 44 0) 63 f_60) 73 i_62) 66 f_67) 44 n_68) 42 j_69) 43 j_70) 68 n_71) 69 j_72) 70 j_73) 72 f_86)) H := by rw [ef_86]; exact x_trP hP mwd_s49
                              have hD : va_D A (mwd y ad zw (tI (sJ (sJ (sI (sJ (sJ (sI (tI (sI (tI (sI σ 44 0) 63 f_60) 73 i_62) 66 f_67) 44 n_68) 42 j_69) 43 j_70) 68 n_71) 69 j_72) 70 j_73) 72 f_86)) := by rw [ef_86]; exact x_trD hD mwd_s49
                              have pf_86 : PT (false :: T) f_86 ((σ.2.2.1 62) 1).toInt := by rw [ef_86]; exact PT_pushF (PT_mono (by omega) hPT.2.2) (x_cl (by omega)) (by decide)
                              refine lv_aload_n hx hb dX12_works_626 rfl (lv_at hl 8 rfl) ?_
                              refine lv_dup hx hb dX12_works_627 rfl ?_
                              refine va_get (D := D) (ci := 11) (v := .int i_62) (C := RX12) (T := TX12) (N := 85) hx hb hts inX12 hown hK hP 0 mwd_o0 rfl 73 (by decide) fl421 (fun _ h9 => h9) rfl dX12_works_628 ?_
                              refine lv_iconst (v := 1) hx hb dX12_works_631 (by decide) ?_
                              refine lv_iadd hx hb dX12_works_632 ?_
                              refine lv_topi (fun i_87 ei_87 => ?_)
                              have vi_87 : i_87.toInt = i_62.toInt + 1 := by have h9 := x_add ei_87 (by omega) (by omega); omega
                              refine va_put (D := D) (ci := 11) (v := .int i_87) (ty := .int) (C := RX12) (T := TX12) (N := 85) hx hb hts inX12 tyX12 tyX12_ok nmX12 hown hK hP hD hS 0 mwd_o0 rfl 73 (by decide) fl421 (fun _ h9 => h9) rfl (by decide +kernel) rfl rfl (Nat.le_of_ble_eq_true rfl) dX12_works_633 (fun H locs hP hD hS => ?_)
                              have hP : va_P D vwCl (mwd y ad zw (sI (tI (sJ (sJ (sI (sJ (sJ (sI (tI (sI (tI (sI σ 44 0) 63 f_60) 73 i_62) 66 f_67) 44 n_68) 42 j_69) 43 j_70) 68 n_71) 69 j_72) 70 j_73) 72 f_86) 73 i_87)) H := x_trP hP mwd_p0_73
                              have hD : va_D A (mwd y ad zw (sI (tI (sJ (sJ (sI (sJ (sJ (sI (tI (sI (tI (sI σ 44 0) 63 f_60) 73 i_62) 66 f_67) 44 n_68) 42 j_69) 43 j_70) 68 n_71) 69 j_72) 70 j_73) 72 f_86) 73 i_87)) := x_trD hD mwd_p0_73
                              refine lv_iconst (v := 1) hx hb dX12_works_636 (by decide) ?_
                              have hP : va_P D vwCl (mwd y ad zw (tI (tI (tI (tI (tJ (tJ (sJ (sJ (sI (sJ (sJ (sI (tI (tI (tI (tI (sI σ 73 i_87) 72 f_86) 63 f_60) 67 (σ.2.2.1 67)) 66 f_67) 44 n_68) 42 j_69) 43 j_70) 68 n_71) 69 j_72) 70 j_73) 57 (σ.2.2.2 57)) 58 (σ.2.2.2 58)) 59 (σ.2.2.1 59)) 60 (σ.2.2.1 60)) 61 (σ.2.2.1 61)) 62 (σ.2.2.1 62))) H := hP
                              have hD : va_D A (mwd y ad zw (tI (tI (tI (tI (tJ (tJ (sJ (sJ (sI (sJ (sJ (sI (tI (tI (tI (tI (sI σ 73 i_87) 72 f_86) 63 f_60) 67 (σ.2.2.1 67)) 66 f_67) 44 n_68) 42 j_69) 43 j_70) 68 n_71) 69 j_72) 70 j_73) 57 (σ.2.2.2 57)) 58 (σ.2.2.2 58)) 59 (σ.2.2.1 59)) 60 (σ.2.2.1 60)) 61 (σ.2.2.1 61)) 62 (σ.2.2.1 62))) := hD
                              exact x_zretW (v := 1) (u := (i_87, f_86, f_60, (σ.2.2.1 67), f_67, n_68, j_69, j_70, n_71, j_72, j_73, (σ.2.2.2 57), (σ.2.2.2 58), (σ.2.2.1 59), (σ.2.2.1 60), (σ.2.2.1 61), (σ.2.2.1 62))) hx hb hr hQ rfl (by (try dsimp only); exact ⟨⟨Or.inr ⟨by omega, pf_86, by omega, rfl⟩, hop, by omega, by omega, rfl⟩, hB57, hB58, hB62, hvf_60⟩) hP hD hK hS dX12_works_637 hlocks
                    · exact absurd c_66 (by decide)
                · exact absurd c_64 (by decide)
              · exact absurd (by decide) c_63
            · exact absurd c_61 (by decide)
          · exact absurd (by decide) c_57
      · exact absurd c_6 (by decide)
    · exact absurd c_3 (by decide)
  · have kc_2 : i_1.toInt = 1000 := by have h9 := c_2; simp only [ge_iff_le, gt_iff_lt, x_lt, x_le, x_eq, ne_eq, Int32.not_lt, Int32.not_le] at h9; simp only [Int32.reduceToInt] at h9; omega
    refine lv_aload_n hx hb dX12_works_12 rfl (lv_at hl 0 rfl) ?_
    refine va_get (D := D) (ci := 11) (v := .ref (ad 67)) (C := RX12) (T := TX12) (N := 85) hx hb hts inX12 hown hK hP 0 mwd_o0 rfl 67 (by decide) fl154 (fun _ h9 => h9) rfl dX12_works_13 ?_
    refine lv_iload_n hx hb dX12_works_16 rfl (lv_at hl 1 rfl) ?_
    refine lv_iconst (v := 2) hx hb dX12_works_17 (by decide) ?_
    refine va_iast hx hb hK hP hD hS 47 2 mwd_a47 rfl (x_in (by decide) (by decide)) dX12_works_18 (fun H locs hP hD hS => ?_)
    obtain ⟨f_88, ef_88⟩ : ∃ z9 : Nat → Int32, z9 = (upd (σ.2.2.1 67) (Int32.toNatClampNeg 1) 2) := ⟨_, rfl⟩
    have hP : va_P D vwCl (mwd y ad zw (tI σ 67 f_88)) H := by rw [ef_88]; exact x_trP hP mwd_s47
    have hD : va_D A (mwd y ad zw (tI σ 67 f_88)) := by rw [ef_88]; exact x_trD hD mwd_s47
    refine lv_iconst (v := 0) hx hb dX12_works_19 (by decide) ?_
    have hP : va_P D vwCl (mwd y ad zw (tI (tI (tI (tI (tJ (tJ (sJ (sJ (sI (sJ (sJ (sI (tI (tI (tI (tI (sI σ 73 (σ.1 73)) 72 (σ.2.2.1 72)) 63 (σ.2.2.1 63)) 67 f_88) 66 (σ.2.2.1 66)) 44 (σ.1 44)) 42 (σ.2.1 42)) 43 (σ.2.1 43)) 68 (σ.1 68)) 69 (σ.2.1 69)) 70 (σ.2.1 70)) 57 (σ.2.2.2 57)) 58 (σ.2.2.2 58)) 59 (σ.2.2.1 59)) 60 (σ.2.2.1 60)) 61 (σ.2.2.1 61)) 62 (σ.2.2.1 62))) H := hP
    have hD : va_D A (mwd y ad zw (tI (tI (tI (tI (tJ (tJ (sJ (sJ (sI (sJ (sJ (sI (tI (tI (tI (tI (sI σ 73 (σ.1 73)) 72 (σ.2.2.1 72)) 63 (σ.2.2.1 63)) 67 f_88) 66 (σ.2.2.1 66)) 44 (σ.1 44)) 42 (σ.2.1 42)) 43 (σ.2.1 43)) 68 (σ.1 68)) 69 (σ.2.1 69)) 70 (σ.2.1 70)) 57 (σ.2.2.2 57)) 58 (σ.2.2.2 58)) 59 (σ.2.2.1 59)) 60 (σ.2.2.1 60)) 61 (σ.2.2.1 61)) 62 (σ.2.2.1 62))) := hD
    exact x_zretW (v := 0) (u := ((σ.1 73), (σ.2.2.1 72), (σ.2.2.1 63), f_88, (σ.2.2.1 66), (σ.1 44), (σ.2.1 42), (σ.2.1 43), (σ.1 68), (σ.2.1 69), (σ.2.1 70), (σ.2.2.2 57), (σ.2.2.2 58), (σ.2.2.1 59), (σ.2.2.1 60), (σ.2.2.1 61), (σ.2.2.1 62))) hx hb hr hQ rfl (by (try dsimp only); exact ⟨⟨Or.inl (by rw [ef_88]; show (upd _ 1 _ 1).toInt ≠ 0; rw [x_upd_same]; decide), hop, by omega, by omega, rfl⟩, hB57, hB58, hB62, hB63⟩) hP hD hK hS dX12_works_20 hlocks

def v_q_works1_12 : List Cond := .code yX12_works cX12_works 15 (some .boolean) :: ([.fieldLink RX12 142 "SlopeRunnerModel" "steps" "[I", .fieldLink RX12 160 "SlopeRunnerModel" "pile" "[I", .fieldLink RX12 421 "SlopeRunnerModel" "piled" "I", .fieldLink RX12 124 "SlopeRunnerModel" "valueAbove" "[J", .fieldLink RX12 127 "SlopeRunnerModel" "valueBelow" "[J", .fieldLink RX12 384 "SlopeRunnerModel" "isStuck" "Z", .fieldLink RX12 154 "SlopeRunnerModel" "state" "[I"] ++ ((wsV RX12 437 RX12 yX12_nears v_q_nears1) ++ wsX120))
theorem g_q_works1_12_0 : GoodIn v_q_works1_12 (wsV RX12 437 RX12 yX12_nears v_q_nears1) := goodIn_sub (fun w h => List.mem_cons_of_mem _ (List.mem_append_right _ (List.mem_append_left _ h))) (by decide +kernel)
set_option maxHeartbeats 4000000 in
set_option maxRecDepth 100000 in
theorem q_works1_12 (l : Launch) (D : va_G) (y : Nat → ClassId) (sz : Nat) (ad : Nat → Nat) (zw : Nat → Nat → Int32) (σ : OS) (T : List Bool) (hp : (σ.1 73).toInt = (T.length : Int) + 2) (hT : T.length ≤ 700) (hPT : PT (true :: true :: T) (σ.2.2.1 72) (σ.2.2.1 62 1).toInt) (hop : opc (σ.2.2.1 59) (σ.2.2.1 60) (σ.2.2.1 61)) (hl0 : 0 ≤ (σ.2.2.1 62 1).toInt) (hl1 : (σ.2.2.1 62 1).toInt < 1760) (hB57 : bJ (σ.2.2.2 57) (-1000000000) 1000000000) (hB58 : bJ (σ.2.2.2 58) 0 1000000000) (hB62 : bI (σ.2.2.1 62) 0 1760) (hB63 : bI (σ.2.2.1 63) 0 1000) : Met l yX12_works v_q_works1_12 ({ frames := 1, cells := 0, slots := 0, locals := 31 } : Room) (va_Pc [.ref (ad 1), .int 1, .int 12] (xPre D (xT y) (mwd y ad zw σ) sz)) (va_Qi (fun (r : Int32) (u : Int32 × (Nat → Int32) × (Nat → Int32) × (Nat → Int32) × (Nat → Int32) × Int32 × Int64 × Int64 × Int32 × Int64 × Int64 × (Nat → Int64) × (Nat → Int64) × (Nat → Int32) × (Nat → Int32) × (Nat → Int32) × (Nat → Int32)) => (((u.2.2.2.1 1).toInt ≠ 0 ∨ (u.1.toInt = (T.length : Int) + 1 ∧ PT (false :: T) u.2.1 (u.2.2.2.2.2.2.2.2.2.2.2.2.2.2.2.2 1).toInt ∧ (u.2.2.1 1).toInt = (σ.2.2.1 63 1).toInt + 1 ∧ u.2.2.2.1 = σ.2.2.1 67)) ∧ opc u.2.2.2.2.2.2.2.2.2.2.2.2.2.1 u.2.2.2.2.2.2.2.2.2.2.2.2.2.2.1 u.2.2.2.2.2.2.2.2.2.2.2.2.2.2.2.1 ∧ (σ.2.2.1 62 1).toInt ≤ (u.2.2.2.2.2.2.2.2.2.2.2.2.2.2.2.2 1).toInt ∧ (u.2.2.2.2.2.2.2.2.2.2.2.2.2.2.2.2 1).toInt - (σ.2.2.1 62 1).toInt ≤ (u.2.2.1 1).toInt - (σ.2.2.1 63 1).toInt ∧ u.2.2.2.2.2.2.2.2.2.2.2.2.2.2.2.2 0 = σ.2.2.1 62 0) ∧ bJ u.2.2.2.2.2.2.2.2.2.2.2.1 (-1000000000) 1000000000 ∧ bJ u.2.2.2.2.2.2.2.2.2.2.2.2.1 0 1000000000 ∧ bI u.2.2.2.2.2.2.2.2.2.2.2.2.2.2.2.2 0 1760 ∧ bI u.2.2.1 0 1000) (fun (u : Int32 × (Nat → Int32) × (Nat → Int32) × (Nat → Int32) × (Nat → Int32) × Int32 × Int64 × Int64 × Int32 × Int64 × Int64 × (Nat → Int64) × (Nat → Int64) × (Nat → Int32) × (Nat → Int32) × (Nat → Int32) × (Nat → Int32)) => xB D (xT y) (va_A (mwd y ad zw σ) sz) (mwd y ad zw (tI (tI (tI (tI (tJ (tJ (sJ (sJ (sI (sJ (sJ (sI (tI (tI (tI (tI (sI σ 73 u.1) 72 u.2.1) 63 u.2.2.1) 67 u.2.2.2.1) 66 u.2.2.2.2.1) 44 u.2.2.2.2.2.1) 42 u.2.2.2.2.2.2.1) 43 u.2.2.2.2.2.2.2.1) 68 u.2.2.2.2.2.2.2.2.1) 69 u.2.2.2.2.2.2.2.2.2.1) 70 u.2.2.2.2.2.2.2.2.2.2.1) 57 u.2.2.2.2.2.2.2.2.2.2.2.1) 58 u.2.2.2.2.2.2.2.2.2.2.2.2.1) 59 u.2.2.2.2.2.2.2.2.2.2.2.2.2.1) 60 u.2.2.2.2.2.2.2.2.2.2.2.2.2.2.1) 61 u.2.2.2.2.2.2.2.2.2.2.2.2.2.2.2.1) 62 u.2.2.2.2.2.2.2.2.2.2.2.2.2.2.2.2))) (va_A (mwd y ad zw σ) sz)) 0 0 (va_A (mwd y ad zw σ) sz) := by
  refine x_meti (cc := cX12_works) (maxL := 15) (by decide) rfl (Nat.le_of_ble_eq_true rfl) ?_
  intro p e s m below meth c A H locs Q hx hb hml hown hts hr hlocks hmn hA hP hK hD hS ls hl hQ
  have hl : lv_has ls 15 [(0, .ref (ad 1)), (1, .int 1), (2, .int 12)] := hl
  have fl142 := hts (.fieldLink RX12 142 "SlopeRunnerModel" "steps" "[I") (List.mem_of_getElem? (i := 1) rfl)
  have inX12 : ∀ w ∈ wsX120, w ∈ v_q_works1_12 := (fun w h => List.mem_cons_of_mem _ (List.mem_append_right _ (List.mem_append_right _ h)))
  have kk_1000 : (1000 : Int32).toInt = 1000 := rfl
  have fl160 := hts (.fieldLink RX12 160 "SlopeRunnerModel" "pile" "[I") (List.mem_of_getElem? (i := 2) rfl)
  have fl421 := hts (.fieldLink RX12 421 "SlopeRunnerModel" "piled" "I") (List.mem_of_getElem? (i := 3) rfl)
  have kk_1 : (1 : Int32).toInt = 1 := rfl
  have kk_2 : (2 : Int32).toInt = 2 := rfl
  have fl124 := hts (.fieldLink RX12 124 "SlopeRunnerModel" "valueAbove" "[J") (List.mem_of_getElem? (i := 4) rfl)
  have kk_1760 : (1760 : Int32).toInt = 1760 := rfl
  have fl127 := hts (.fieldLink RX12 127 "SlopeRunnerModel" "valueBelow" "[J") (List.mem_of_getElem? (i := 5) rfl)
  have fl384 := hts (.fieldLink RX12 384 "SlopeRunnerModel" "isStuck" "Z") (List.mem_of_getElem? (i := 6) rfl)
  have fl154 := hts (.fieldLink RX12 154 "SlopeRunnerModel" "state" "[I") (List.mem_of_getElem? (i := 7) rfl)
  have kk_0 : (0 : Int32).toInt = 0 := rfl
  refine lv_aload_n hx hb dX12_works_0 rfl (lv_at hl 0 rfl) ?_
  refine va_get (D := D) (ci := 11) (v := .ref (ad 63)) (C := RX12) (T := TX12) (N := 85) hx hb hts inX12 hown hK hP 0 mwd_o0 rfl 63 (by decide) fl142 (fun _ h9 => h9) rfl dX12_works_1 ?_
  refine lv_iload_n hx hb dX12_works_4 rfl (lv_at hl 1 rfl) ?_
  refine va_iald hx hb hK hP 43 2 mwd_a43 rfl (x_in (by decide) (by decide)) dX12_works_5 ?_
  refine lv_topi (fun i_1 ei_1 => ?_)
  have ei_1 : i_1 = (σ.2.2.1 63) (Int32.toNatClampNeg 1) := ei_1
  have gi_1 : i_1.toInt = (σ.2.2.1 63 1).toInt := by rw [ei_1]; rfl
  have bi_1 := b_at hB63 ei_1
  refine lv_sipush (v := 1000) hx hb dX12_works_6 (by decide) ?_
  refine lv_icmp_ne (tgt := 21) hx hb dX12_works_9 (by decide) (fun c_2 => ?_) (fun c_2 => ?_)
  · have kc_2 : i_1.toInt ≠ 1000 := by have h9 := c_2; simp only [ge_iff_le, gt_iff_lt, x_lt, x_le, x_eq, ne_eq, Int32.not_lt, Int32.not_le] at h9; simp only [Int32.reduceToInt] at h9; omega
    refine lv_iload_n hx hb dX12_works_21 rfl (lv_at hl 2 rfl) ?_
    refine lv_bipush (v := 7) hx hb dX12_works_22 (by decide) ?_
    refine lv_icmp_ne (tgt := 41) hx hb dX12_works_24 (by decide) (fun c_3 => ?_) (fun c_3 => ?_)
    · refine lv_aload_n hx hb dX12_works_41 rfl (lv_at hl 0 rfl) ?_
      refine va_get (D := D) (ci := 11) (v := .ref (ad 72)) (C := RX12) (T := TX12) (N := 85) hx hb hts inX12 hown hK hP 0 mwd_o0 rfl 72 (by decide) fl160 (fun _ h9 => h9) rfl dX12_works_42 ?_
      refine lv_aload_n hx hb dX12_works_45 rfl (lv_at hl 0 rfl) ?_
      refine va_get (D := D) (ci := 11) (v := .int (σ.1 73)) (C := RX12) (T := TX12) (N := 85) hx hb hts inX12 hown hK hP 0 mwd_o0 rfl 73 (by decide) fl421 (fun _ h9 => h9) rfl dX12_works_46 ?_
      refine lv_iconst (v := 1) hx hb dX12_works_49 (by decide) ?_
      refine lv_isub hx hb dX12_works_50 ?_
      refine lv_topi (fun i_4 ei_4 => ?_)
      have vi_4 : i_4.toInt = (σ.1 73).toInt - 1 := by have h9 := x_sub ei_4 (by omega) (by omega); omega
      refine va_iald hx hb hK hP 49 2 mwd_a49 rfl (x_in (by omega) (by omega)) dX12_works_51 ?_
      refine lv_topi (fun i_5 ei_5 => ?_)
      have ei_5 : i_5 = (σ.2.2.1 72) (Int32.toNatClampNeg i_4) := ei_5
      have gi_5 := PT_N hPT ei_5 (x_cl (by simp only [List.length_cons]; omega))
      refine lv_istore_n (lv' := [(3, .int i_5), (0, .ref (ad 1)), (1, .int 1), (2, .int 12)]) hx hb dX12_works_52 rfl hl (by decide) rfl (fun ls hl => ?_)
      refine lv_iload_n hx hb dX12_works_53 rfl (lv_at hl 3 rfl) ?_
      refine lv_bipush (v := 7) hx hb dX12_works_54 (by decide) ?_
      refine lv_icmp_ne (tgt := 63) hx hb dX12_works_56 (by decide) (fun c_6 => ?_) (fun c_6 => ?_)
      · refine lv_aload_n hx hb dX12_works_63 rfl (lv_at hl 1 rfl) ?_
        refine va_get (D := D) (ci := 11) (v := .ref (ad 72)) (C := RX12) (T := TX12) (N := 85) hx hb hts inX12 hown hK hP 0 mwd_o0 rfl 72 (by decide) fl160 (fun _ h9 => h9) rfl dX12_works_64 ?_
        refine lv_aload_n hx hb dX12_works_67 rfl (lv_at hl 1 rfl) ?_
        refine va_get (D := D) (ci := 11) (v := .int (σ.1 73)) (C := RX12) (T := TX12) (N := 85) hx hb hts inX12 hown hK hP 0 mwd_o0 rfl 73 (by decide) fl421 (fun _ h9 => h9) rfl dX12_works_68 ?_
        refine lv_iconst (v := 2) hx hb dX12_works_71 (by decide) ?_
        refine lv_isub hx hb dX12_works_72 ?_
        refine lv_topi (fun i_7 ei_7 => ?_)
        have vi_7 : i_7.toInt = (σ.1 73).toInt - 2 := by have h9 := x_sub ei_7 (by omega) (by omega); omega
        refine va_iald hx hb hK hP 49 2 mwd_a49 rfl (x_in (by omega) (by omega)) dX12_works_73 ?_
        refine lv_topi (fun i_8 ei_8 => ?_)
        have ei_8 : i_8 = (σ.2.2.1 72) (Int32.toNatClampNeg i_7) := ei_8
        have gi_8 := PT_N hPT.2 ei_8 (x_cl (by omega))
        refine lv_istore (lv' := [(4, .int i_8), (3, .int i_5), (0, .ref (ad 1)), (1, .int 1), (2, .int 12)]) hx hb dX12_works_74 hl (by decide) rfl (fun ls hl => ?_)
        refine lv_aload_n hx hb dX12_works_76 rfl (lv_at hl 2 rfl) ?_
        refine va_get (D := D) (ci := 11) (v := .ref (ad 57)) (C := RX12) (T := TX12) (N := 85) hx hb hts inX12 hown hK hP 0 mwd_o0 rfl 57 (by decide) fl124 (fun _ h9 => h9) rfl dX12_works_77 ?_
        refine lv_sipush (v := 1760) hx hb dX12_works_80 (by decide) ?_
        refine lv_iload_n hx hb dX12_works_83 rfl (lv_at hl 3 rfl) ?_
        refine lv_imul hx hb dX12_works_84 ?_
        refine lv_topi (fun i_9 ei_9 => ?_)
        obtain rfl : i_9 = 1760 := ei_9.trans (by decide)
        refine lv_iload hx hb dX12_works_85 (lv_at hl 0 rfl) ?_
        refine lv_iadd hx hb dX12_works_87 ?_
        refine lv_topi (fun i_10 ei_10 => ?_)
        have vi_10 : i_10.toInt = 1760 + i_8.toInt := by have h9 := x_add ei_10 (by omega) (by omega); omega
        refine va_lald hx hb hK hP 37 3 mwd_a37 rfl (x_in (by omega) (by omega)) dX12_works_88 ?_
        refine lv_topl (fun j_11 ej_11 => ?_)
        have ej_11 : j_11 = (σ.2.2.2 57) (Int32.toNatClampNeg i_10) := ej_11
        have bj_11 := b_atJ hB57 ej_11
        refine lv_lstore (lv' := [(5, .long j_11), (4, .int i_8), (3, .int i_5), (0, .ref (ad 1)), (1, .int 1), (2, .int 12)]) hx hb dX12_works_89 hl (by decide) rfl (fun ls hl => ?_)
        refine lv_aload_n hx hb dX12_works_91 rfl (lv_at hl 3 rfl) ?_
        refine va_get (D := D) (ci := 11) (v := .ref (ad 58)) (C := RX12) (T := TX12) (N := 85) hx hb hts inX12 hown hK hP 0 mwd_o0 rfl 58 (by decide) fl127 (fun _ h9 => h9) rfl dX12_works_92 ?_
        refine lv_sipush (v := 1760) hx hb dX12_works_95 (by decide) ?_
        refine lv_iload_n hx hb dX12_works_98 rfl (lv_at hl 4 rfl) ?_
        refine lv_imul hx hb dX12_works_99 ?_
        refine lv_topi (fun i_12 ei_12 => ?_)
        obtain rfl : i_12 = 1760 := ei_12.trans (by decide)
        refine lv_iload hx hb dX12_works_100 (lv_at hl 1 rfl) ?_
        refine lv_iadd hx hb dX12_works_102 ?_
        refine lv_topi (fun i_13 ei_13 => ?_)
        have vi_13 : i_13.toInt = 1760 + i_8.toInt := by have h9 := x_add ei_13 (by omega) (by omega); omega
        refine va_lald hx hb hK hP 38 3 mwd_a38 rfl (x_in (by omega) (by omega)) dX12_works_103 ?_
        refine lv_topl (fun j_14 ej_14 => ?_)
        have ej_14 : j_14 = (σ.2.2.2 58) (Int32.toNatClampNeg i_13) := ej_14
        have bj_14 := b_atJ hB58 ej_14
        refine lv_lstore (lv' := [(7, .long j_14), (5, .long j_11), (4, .int i_8), (3, .int i_5), (0, .ref (ad 1)), (1, .int 1), (2, .int 12)]) hx hb dX12_works_104 hl (by decide) rfl (fun ls hl => ?_)
        refine lv_aload_n hx hb dX12_works_106 rfl (lv_at hl 4 rfl) ?_
        refine va_get (D := D) (ci := 11) (v := .ref (ad 57)) (C := RX12) (T := TX12) (N := 85) hx hb hts inX12 hown hK hP 0 mwd_o0 rfl 57 (by decide) fl124 (fun _ h9 => h9) rfl dX12_works_107 ?_
        refine lv_sipush (v := 1760) hx hb dX12_works_110 (by decide) ?_
        refine lv_iload_n hx hb dX12_works_113 rfl (lv_at hl 5 rfl) ?_
        refine lv_imul hx hb dX12_works_114 ?_
        refine lv_topi (fun i_15 ei_15 => ?_)
        obtain rfl : i_15 = 1760 := ei_15.trans (by decide)
        refine lv_iload_n hx hb dX12_works_115 rfl (lv_at hl 3 rfl) ?_
        refine lv_iadd hx hb dX12_works_116 ?_
        refine lv_topi (fun i_16 ei_16 => ?_)
        have vi_16 : i_16.toInt = 1760 + i_5.toInt := by have h9 := x_add ei_16 (by omega) (by omega); omega
        refine va_lald hx hb hK hP 37 3 mwd_a37 rfl (x_in (by omega) (by omega)) dX12_works_117 ?_
        refine lv_topl (fun j_17 ej_17 => ?_)
        have ej_17 : j_17 = (σ.2.2.2 57) (Int32.toNatClampNeg i_16) := ej_17
        have bj_17 := b_atJ hB57 ej_17
        refine lv_lstore (lv' := [(9, .long j_17), (7, .long j_14), (5, .long j_11), (4, .int i_8), (3, .int i_5), (0, .ref (ad 1)), (1, .int 1), (2, .int 12)]) hx hb dX12_works_118 hl (by decide) rfl (fun ls hl => ?_)
        refine lv_aload_n hx hb dX12_works_120 rfl (lv_at hl 5 rfl) ?_
        refine va_get (D := D) (ci := 11) (v := .ref (ad 58)) (C := RX12) (T := TX12) (N := 85) hx hb hts inX12 hown hK hP 0 mwd_o0 rfl 58 (by decide) fl127 (fun _ h9 => h9) rfl dX12_works_121 ?_
        refine lv_sipush (v := 1760) hx hb dX12_works_124 (by decide) ?_
        refine lv_iload_n hx hb dX12_works_127 rfl (lv_at hl 6 rfl) ?_
        refine lv_imul hx hb dX12_works_128 ?_
        refine lv_topi (fun i_18 ei_18 => ?_)
        obtain rfl : i_18 = 1760 := ei_18.trans (by decide)
        refine lv_iload_n hx hb dX12_works_129 rfl (lv_at hl 4 rfl) ?_
        refine lv_iadd hx hb dX12_works_130 ?_
        refine lv_topi (fun i_19 ei_19 => ?_)
        have vi_19 : i_19.toInt = 1760 + i_5.toInt := by have h9 := x_add ei_19 (by omega) (by omega); omega
        refine va_lald hx hb hK hP 38 3 mwd_a38 rfl (x_in (by omega) (by omega)) dX12_works_131 ?_
        refine lv_topl (fun j_20 ej_20 => ?_)
        have ej_20 : j_20 = (σ.2.2.2 58) (Int32.toNatClampNeg i_19) := ej_20
        have bj_20 := b_atJ hB58 ej_20
        refine lv_lstore (lv' := [(11, .long j_20), (9, .long j_17), (7, .long j_14), (5, .long j_11), (4, .int i_8), (3, .int i_5), (0, .ref (ad 1)), (1, .int 1), (2, .int 12)]) hx hb dX12_works_132 hl (by decide) rfl (fun ls hl => ?_)
        refine lv_lload hx hb dX12_works_134 (lv_at hl 3 rfl) ?_
        refine lv_lload hx hb dX12_works_136 (lv_at hl 0 rfl) ?_
        refine lv_lmul hx hb dX12_works_138 ?_
        refine lv_topl (fun j_21 ej_21 => ?_)
        have vj_21 := x_mulB ej_21 (by omega) (by omega) (by omega) (by omega)
        refine lv_lload hx hb dX12_works_139 (lv_at hl 1 rfl) ?_
        refine lv_lload hx hb dX12_works_141 (lv_at hl 2 rfl) ?_
        refine lv_lmul hx hb dX12_works_143 ?_
        refine lv_topl (fun j_22 ej_22 => ?_)
        have vj_22 := x_mulB ej_22 (by omega) (by omega) (by omega) (by omega)
        refine W.lcmp hx hb dX12_works_144 ?_
        refine lv_if_ge (tgt := 152) hx hb dX12_works_145 (by decide) (fun c_23 => ?_) (fun c_23 => ?_)
        · have kc_23 : j_21.toInt ≥ j_22.toInt := by have h9 := x_tri j_21 j_22; (try simp only [Int64.reduceToInt] at h9); rcases h9 with ⟨g1, g2⟩ | ⟨g1, g2⟩ | ⟨g1, g2⟩ <;> first | omega | (exfalso; rw [g1] at c_23; revert c_23; decide)
          refine lv_iconst (v := 0) hx hb dX12_works_152 (by decide) ?_
          refine lv_istore (lv' := [(13, .int 0), (11, .long j_20), (9, .long j_17), (7, .long j_14), (5, .long j_11), (4, .int i_8), (3, .int i_5), (0, .ref (ad 1)), (1, .int 1), (2, .int 12)]) hx hb dX12_works_153 hl (by decide) rfl (fun ls hl => ?_)
          refine lv_aload_n hx hb dX12_works_155 rfl (lv_at hl 7 rfl) ?_
          refine lv_iconst (v := 0) hx hb dX12_works_156 (by decide) ?_
          refine va_put (D := D) (ci := 11) (v := .int 0) (ty := .boolean) (C := RX12) (T := TX12) (N := 85) hx hb hts inX12 tyX12 tyX12_ok nmX12 hown hK hP hD hS 0 mwd_o0 rfl 44 (by decide) fl384 (fun _ h9 => h9) rfl (by decide +kernel) rfl rfl (Nat.le_of_ble_eq_true rfl) dX12_works_157 (fun H locs hP hD hS => ?_)
          have hP : va_P D vwCl (mwd y ad zw (sI σ 44 0)) H := x_trP hP mwd_p0_44
          have hD : va_D A (mwd y ad zw (sI σ 44 0)) := x_trD hD mwd_p0_44
          refine lv_iload_n hx hb dX12_works_160 rfl (lv_at hl 9 rfl) ?_
          refine lv_tableOut (tgt := 252) hx hb dX12_works_161 (by decide) (by decide) ?_
          refine lv_aload_n hx hb dX12_works_252 rfl (lv_at hl 7 rfl) ?_
          refine va_get (D := D) (ci := 11) (v := .int 0) (C := RX12) (T := TX12) (N := 85) hx hb hts inX12 hown hK hP 0 mwd_o0 rfl 44 (by decide) fl384 (fun _ h9 => h9) rfl dX12_works_253 ?_
          refine lv_if_eq (tgt := 268) hx hb dX12_works_256 (by decide) (fun c_25 => ?_) (fun c_25 => ?_)
          · refine lv_aload_n hx hb dX12_works_268 rfl (lv_at hl 7 rfl) ?_
            refine va_get (D := D) (ci := 11) (v := .ref (ad 63)) (C := RX12) (T := TX12) (N := 85) hx hb hts inX12 hown hK hP 0 mwd_o0 rfl 63 (by decide) fl142 (fun _ h9 => h9) rfl dX12_works_269 ?_
            refine lv_iload_n hx hb dX12_works_272 rfl (lv_at hl 8 rfl) ?_
            refine lv_dup2_11 hx hb dX12_works_273 rfl rfl ?_
            refine va_iald hx hb hK hP 43 2 mwd_a43 rfl (x_in (by decide) (by decide)) dX12_works_274 ?_
            refine lv_topi (fun i_26 ei_26 => ?_)
            have ei_26 : i_26 = (σ.2.2.1 63) (Int32.toNatClampNeg 1) := ei_26
            have gi_26 : i_26.toInt = (σ.2.2.1 63 1).toInt := by rw [ei_26]; rfl
            have bi_26 := b_at hB63 ei_26
            refine lv_iconst (v := 1) hx hb dX12_works_275 (by decide) ?_
            refine lv_iadd hx hb dX12_works_276 ?_
            refine lv_topi (fun i_27 ei_27 => ?_)
            have vi_27 : i_27.toInt = i_26.toInt + 1 := by have h9 := x_add ei_27 (by omega) (by omega); omega
            refine va_iast hx hb hK hP hD hS 43 2 mwd_a43 rfl (x_in (by decide) (by decide)) dX12_works_277 (fun H locs hP hD hS => ?_)
            obtain ⟨f_28, ef_28⟩ : ∃ z9 : Nat → Int32, z9 = (upd (σ.2.2.1 63) (Int32.toNatClampNeg 1) i_27) := ⟨_, rfl⟩
            have hP : va_P D vwCl (mwd y ad zw (tI (sI σ 44 0) 63 f_28)) H := by rw [ef_28]; exact x_trP hP mwd_s43
            have hD : va_D A (mwd y ad zw (tI (sI σ 44 0) 63 f_28)) := by rw [ef_28]; exact x_trD hD mwd_s43
            have hvf_28 : bI f_28 0 1000 := by rw [ef_28]; exact b_upd hB63 (by omega) (by omega)
            have sf_28 : (f_28 1).toInt = i_27.toInt := by rw [ef_28]; exact congrArg Int32.toInt (x_upd_same _ 1 _)
            refine lv_aload_n hx hb dX12_works_278 rfl (lv_at hl 7 rfl) ?_
            refine lv_dup hx hb dX12_works_279 rfl ?_
            refine va_get (D := D) (ci := 11) (v := .int (σ.1 73)) (C := RX12) (T := TX12) (N := 85) hx hb hts inX12 hown hK hP 0 mwd_o0 rfl 73 (by decide) fl421 (fun _ h9 => h9) rfl dX12_works_280 ?_
            refine lv_iload_n hx hb dX12_works_283 rfl (lv_at hl 9 rfl) ?_
            refine lv_bipush (v := 7) hx hb dX12_works_284 (by decide) ?_
            refine lv_icmp_ne (tgt := 293) hx hb dX12_works_286 (by decide) (fun c_29 => ?_) (fun c_29 => ?_)
            · refine lv_iconst (v := 2) hx hb dX12_works_293 (by decide) ?_
              refine lv_isub hx hb dX12_works_294 ?_
              refine lv_topi (fun i_30 ei_30 => ?_)
              have vi_30 : i_30.toInt = (σ.1 73).toInt - 2 := by have h9 := x_sub ei_30 (by omega) (by omega); omega
              refine va_put (D := D) (ci := 11) (v := .int i_30) (ty := .int) (C := RX12) (T := TX12) (N := 85) hx hb hts inX12 tyX12 tyX12_ok nmX12 hown hK hP hD hS 0 mwd_o0 rfl 73 (by decide) fl421 (fun _ h9 => h9) rfl (by decide +kernel) rfl rfl (Nat.le_of_ble_eq_true rfl) dX12_works_295 (fun H locs hP hD hS => ?_)
              have hP : va_P D vwCl (mwd y ad zw (sI (tI (sI σ 44 0) 63 f_28) 73 i_30)) H := x_trP hP mwd_p0_73
              have hD : va_D A (mwd y ad zw (sI (tI (sI σ 44 0) 63 f_28) 73 i_30)) := x_trD hD mwd_p0_73
              refine lv_iload_n hx hb dX12_works_298 rfl (lv_at hl 9 rfl) ?_
              refine lv_iconst (v := 4) hx hb dX12_works_299 (by decide) ?_
              refine lv_icmp_gt (tgt := 340) hx hb dX12_works_300 (by decide) (fun c_31 => ?_) (fun c_31 => ?_)
              · refine lv_iload_n hx hb dX12_works_340 rfl (lv_at hl 9 rfl) ?_
                refine lv_bipush (v := 7) hx hb dX12_works_341 (by decide) ?_
                refine lv_icmp_ne (tgt := 394) hx hb dX12_works_343 (by decide) (fun c_32 => ?_) (fun c_32 => ?_)
                · refine lv_iload_n hx hb dX12_works_394 rfl (lv_at hl 9 rfl) ?_
                  refine lv_iconst (v := 5) hx hb dX12_works_395 (by decide) ?_
                  refine lv_icmp_eq (tgt := 405) hx hb dX12_works_396 (by decide) (fun c_33 => ?_) (fun c_33 => ?_)
                  · exact absurd c_33 (by decide)
                  · refine lv_iload_n hx hb dX12_works_399 rfl (lv_at hl 9 rfl) ?_
                    refine lv_bipush (v := 6) hx hb dX12_works_400 (by decide) ?_
                    refine lv_icmp_ne (tgt := 538) hx hb dX12_works_402 (by decide) (fun c_34 => ?_) (fun c_34 => ?_)
                    · refine lv_aload_n hx hb dX12_works_538 rfl (lv_at hl 7 rfl) ?_
                      refine lv_iload_n hx hb dX12_works_539 rfl (lv_at hl 8 rfl) ?_
                      refine lv_lload hx hb dX12_works_540 (lv_at hl 4 rfl) ?_
                      refine lv_lload hx hb dX12_works_542 (lv_at hl 3 rfl) ?_
                      refine lv_lload hx hb dX12_works_544 (lv_at hl 2 rfl) ?_
                      refine lv_lload hx hb dX12_works_546 (lv_at hl 1 rfl) ?_
                      refine x_callvW (va_runV (As := [.int 1, .long j_11, .long j_14, .long j_17, .long j_20]) (rest := []) ⟨hx, hb, hml, hown, hts⟩ (q_nears1 l D y H.size ad zw (sI (tI (sI σ 44 0) 63 f_28) 73 i_30) j_11 j_14 j_17 j_20 (by first | omega | decide) (by first | omega | decide) (by first | omega | decide) (by first | omega | decide) (by first | omega | decide) (by first | omega | decide) (by first | omega | decide) (by first | omega | decide)) (cwV 5 hts g_q_works1_12_0 rfl rfl rfl (by decide +kernel) ⟨Nat.le_of_ble_eq_true rfl, Nat.le_of_ble_eq_true rfl⟩) (x_preV (q := (RX12, TX12, 85)) hK hP hD (ci := 11) (q0 := 0) rfl mwd_o0) rfl rfl hl.1 rfl (lv_room (Nat.le_of_ble_eq_true rfl)) dX12_works_548 ⟨Nat.le_of_ble_eq_true rfl, Nat.le_of_ble_eq_true rfl⟩) hP hD hS hA (fun u H locs hw hP hD hS => ?_)
                      obtain ⟨f_35, n_36, j_37, j_38, n_39, j_40, j_41⟩ := u
                      try dsimp only at hw
                      have hP : va_P D vwCl (mwd y ad zw (sJ (sJ (sI (sJ (sJ (sI (tI (sI (tI (sI σ 44 0) 63 f_28) 73 i_30) 66 f_35) 44 n_36) 42 j_37) 43 j_38) 68 n_39) 69 j_40) 70 j_41)) H := hP
                      have hD : va_D A (mwd y ad zw (sJ (sJ (sI (sJ (sJ (sI (tI (sI (tI (sI σ 44 0) 63 f_28) 73 i_30) 66 f_35) 44 n_36) 42 j_37) 43 j_38) 68 n_39) 69 j_40) 70 j_41)) := hD
                      have hw : True := hw
                      refine lv_lload hx hb dX12_works_551 (lv_at hl 4 rfl) ?_
                      refine lv_lload hx hb dX12_works_553 (lv_at hl 2 rfl) ?_
                      refine W.lcmp hx hb dX12_works_555 ?_
                      refine lv_if_ne (tgt := 571) hx hb dX12_works_556 (by decide) (fun c_42 => ?_) (fun c_42 => ?_)
                      · have kc_42 : j_11.toInt ≠ j_17.toInt := by have h9 := x_tri j_11 j_17; (try simp only [Int64.reduceToInt] at h9); rcases h9 with ⟨g1, g2⟩ | ⟨g1, g2⟩ | ⟨g1, g2⟩ <;> first | omega | (exfalso; rw [g1] at c_42; revert c_42; decide)
                        refine lv_iconst (v := 0) hx hb dX12_works_571 (by decide) ?_
                        refine lv_istore (lv' := [(14, .int 0), (13, .int 0), (11, .long j_20), (9, .long j_17), (7, .long j_14), (5, .long j_11), (4, .int i_8), (3, .int i_5), (0, .ref (ad 1)), (1, .int 1), (2, .int 12)]) hx hb dX12_works_572 hl (by decide) rfl (fun ls hl => ?_)
                        refine lv_aload_n hx hb dX12_works_574 rfl (lv_at hl 8 rfl) ?_
                        refine va_get (D := D) (ci := 11) (v := .ref (ad 72)) (C := RX12) (T := TX12) (N := 85) hx hb hts inX12 hown hK hP 0 mwd_o0 rfl 72 (by decide) fl160 (fun _ h9 => h9) rfl dX12_works_575 ?_
                        refine lv_aload_n hx hb dX12_works_578 rfl (lv_at hl 8 rfl) ?_
                        refine va_get (D := D) (ci := 11) (v := .int i_30) (C := RX12) (T := TX12) (N := 85) hx hb hts inX12 hown hK hP 0 mwd_o0 rfl 73 (by decide) fl421 (fun _ h9 => h9) rfl dX12_works_579 ?_
                        refine lv_iload_n hx hb dX12_works_582 rfl (lv_at hl 10 rfl) ?_
                        refine lv_bipush (v := 11) hx hb dX12_works_583 (by decide) ?_
                        refine lv_icmp_ne (tgt := 596) hx hb dX12_works_585 (by decide) (fun c_43 => ?_) (fun c_43 => ?_)
                        · refine lv_iload_n hx hb dX12_works_596 rfl (lv_at hl 10 rfl) ?_
                          refine lv_bipush (v := 12) hx hb dX12_works_597 (by decide) ?_
                          refine lv_icmp_ne (tgt := 615) hx hb dX12_works_599 (by decide) (fun c_44 => ?_) (fun c_44 => ?_)
                          · exact absurd (by decide) c_44
                          · refine lv_iload hx hb dX12_works_602 (lv_at hl 1 rfl) ?_
                            refine lv_if_ne (tgt := 624) hx hb dX12_works_604 (by decide) (fun c_45 => ?_) (fun c_45 => ?_)
                            · exact absurd (by decide) c_45
                            · refine lv_iload hx hb dX12_works_607 (lv_at hl 0 rfl) ?_
                              refine lv_if_ne (tgt := 624) hx hb dX12_works_609 (by decide) (fun c_46 => ?_) (fun c_46 => ?_)
                              · exact absurd (by decide) c_46
                              · refine lv_goto (tgt := 620) hx hb dX12_works_612 (by decide) ?_
                                refine lv_iconst (v := 1) hx hb dX12_works_620 (by decide) ?_
                                refine lv_goto (tgt := 625) hx hb dX12_works_621 (by decide) ?_
                                refine va_iast hx hb hK hP hD hS 49 2 mwd_a49 rfl (x_in (by omega) (by omega)) dX12_works_625 (fun H locs hP hD hS => ?_)
                                obtain ⟨f_47, ef_47⟩ : ∃ z9 : Nat → Int32, z9 = (upd (σ.2.2.1 72) (Int32.toNatClampNeg i_30) 1) := ⟨_, rfl⟩
                                have hP : va_P D vwCl (mwd y ad zw (tI (sJ (sJ (sI (sJ (sJ (sI (tI (sI (tI (sI σ 44 0) 63 f_28) 73 i_30) 66 f_35) 44 n_36) 42 j_37) 43 j_38) 68 n_39) 69 j_40) 70 j_41) 72 f_47)) H := by rw [ef_47]; exact x_trP hP mwd_s49
                                have hD : va_D A (mwd y ad zw (tI (sJ (sJ (sI (sJ (sJ (sI (tI (sI (tI (sI σ 44 0) 63 f_28) 73 i_30) 66 f_35) 44 n_36) 42 j_37) 43 j_38) 68 n_39) 69 j_40) 70 j_41) 72 f_47)) := by rw [ef_47]; exact x_trD hD mwd_s49
                                have pf_47 : PT (false :: T) f_47 ((σ.2.2.1 62) 1).toInt := by rw [ef_47]; exact PT_pushF (PT_mono (by omega) hPT.2.2) (x_cl (by omega)) (by decide)
                                refine lv_aload_n hx hb dX12_works_626 rfl (lv_at hl 8 rfl) ?_
                                refine lv_dup hx hb dX12_works_627 rfl ?_
                                refine va_get (D := D) (ci := 11) (v := .int i_30) (C := RX12) (T := TX12) (N := 85) hx hb hts inX12 hown hK hP 0 mwd_o0 rfl 73 (by decide) fl421 (fun _ h9 => h9) rfl dX12_works_628 ?_
                                refine lv_iconst (v := 1) hx hb dX12_works_631 (by decide) ?_
                                refine lv_iadd hx hb dX12_works_632 ?_
                                refine lv_topi (fun i_48 ei_48 => ?_)
                                have vi_48 : i_48.toInt = i_30.toInt + 1 := by have h9 := x_add ei_48 (by omega) (by omega); omega
                                refine va_put (D := D) (ci := 11) (v := .int i_48) (ty := .int) (C := RX12) (T := TX12) (N := 85) hx hb hts inX12 tyX12 tyX12_ok nmX12 hown hK hP hD hS 0 mwd_o0 rfl 73 (by decide) fl421 (fun _ h9 => h9) rfl (by decide +kernel) rfl rfl (Nat.le_of_ble_eq_true rfl) dX12_works_633 (fun H locs hP hD hS => ?_)
                                have hP : va_P D vwCl (mwd y ad zw (sI (tI (sJ (sJ (sI (sJ (sJ (sI (tI (sI (tI (sI σ 44 0) 63 f_28) 73 i_30) 66 f_35) 44 n_36) 42 j_37) 43 j_38) 68 n_39) 69 j_40) 70 j_41) 72 f_47) 73 i_48)) H := x_trP hP mwd_p0_73
                                have hD : va_D A (mwd y ad zw (sI (tI (sJ (sJ (sI (sJ (sJ (sI (tI (sI (tI (sI σ 44 0) 63 f_28) 73 i_30) 66 f_35) 44 n_36) 42 j_37) 43 j_38) 68 n_39) 69 j_40) 70 j_41) 72 f_47) 73 i_48)) := x_trD hD mwd_p0_73
                                refine lv_iconst (v := 1) hx hb dX12_works_636 (by decide) ?_
                                have hP : va_P D vwCl (mwd y ad zw (tI (tI (tI (tI (tJ (tJ (sJ (sJ (sI (sJ (sJ (sI (tI (tI (tI (tI (sI σ 73 i_48) 72 f_47) 63 f_28) 67 (σ.2.2.1 67)) 66 f_35) 44 n_36) 42 j_37) 43 j_38) 68 n_39) 69 j_40) 70 j_41) 57 (σ.2.2.2 57)) 58 (σ.2.2.2 58)) 59 (σ.2.2.1 59)) 60 (σ.2.2.1 60)) 61 (σ.2.2.1 61)) 62 (σ.2.2.1 62))) H := hP
                                have hD : va_D A (mwd y ad zw (tI (tI (tI (tI (tJ (tJ (sJ (sJ (sI (sJ (sJ (sI (tI (tI (tI (tI (sI σ 73 i_48) 72 f_47) 63 f_28) 67 (σ.2.2.1 67)) 66 f_35) 44 n_36) 42 j_37) 43 j_38) 68 n_39) 69 j_40) 70 j_41) 57 (σ.2.2.2 57)) 58 (σ.2.2.2 58)) 59 (σ.2.2.1 59)) 60 (σ.2.2.1 60)) 61 (σ.2.2.1 61)) 62 (σ.2.2.1 62))) := hD
                                exact x_zretW (v := 1) (u := (i_48, f_47, f_28, (σ.2.2.1 67), f_35, n_36, j_37, j_38, n_39, j_40, j_41, (σ.2.2.2 57), (σ.2.2.2 58), (σ.2.2.1 59), (σ.2.2.1 60), (σ.2.2.1 61), (σ.2.2.1 62))) hx hb hr hQ rfl (by (try dsimp only); exact ⟨⟨Or.inr ⟨by omega, pf_47, by omega, rfl⟩, hop, by omega, by omega, rfl⟩, hB57, hB58, hB62, hvf_28⟩) hP hD hK hS dX12_works_637 hlocks
                        · exact absurd c_43 (by decide)
                      · have kc_42 : j_11.toInt = j_17.toInt := by have h9 := x_tri j_11 j_17; (try simp only [Int64.reduceToInt] at h9); rcases h9 with ⟨g1, g2⟩ | ⟨g1, g2⟩ | ⟨g1, g2⟩ <;> first | omega | (exfalso; rw [g1] at c_42; revert c_42; decide)
                        refine lv_lload hx hb dX12_works_559 (lv_at hl 3 rfl) ?_
                        refine lv_lload hx hb dX12_works_561 (lv_at hl 1 rfl) ?_
                        refine W.lcmp hx hb dX12_works_563 ?_
                        refine lv_if_ne (tgt := 571) hx hb dX12_works_564 (by decide) (fun c_49 => ?_) (fun c_49 => ?_)
                        · have kc_49 : j_14.toInt ≠ j_20.toInt := by have h9 := x_tri j_14 j_20; (try simp only [Int64.reduceToInt] at h9); rcases h9 with ⟨g1, g2⟩ | ⟨g1, g2⟩ | ⟨g1, g2⟩ <;> first | omega | (exfalso; rw [g1] at c_49; revert c_49; decide)
                          refine lv_iconst (v := 0) hx hb dX12_works_571 (by decide) ?_
                          refine lv_istore (lv' := [(14, .int 0), (13, .int 0), (11, .long j_20), (9, .long j_17), (7, .long j_14), (5, .long j_11), (4, .int i_8), (3, .int i_5), (0, .ref (ad 1)), (1, .int 1), (2, .int 12)]) hx hb dX12_works_572 hl (by decide) rfl (fun ls hl => ?_)
                          refine lv_aload_n hx hb dX12_works_574 rfl (lv_at hl 8 rfl) ?_
                          refine va_get (D := D) (ci := 11) (v := .ref (ad 72)) (C := RX12) (T := TX12) (N := 85) hx hb hts inX12 hown hK hP 0 mwd_o0 rfl 72 (by decide) fl160 (fun _ h9 => h9) rfl dX12_works_575 ?_
                          refine lv_aload_n hx hb dX12_works_578 rfl (lv_at hl 8 rfl) ?_
                          refine va_get (D := D) (ci := 11) (v := .int i_30) (C := RX12) (T := TX12) (N := 85) hx hb hts inX12 hown hK hP 0 mwd_o0 rfl 73 (by decide) fl421 (fun _ h9 => h9) rfl dX12_works_579 ?_
                          refine lv_iload_n hx hb dX12_works_582 rfl (lv_at hl 10 rfl) ?_
                          refine lv_bipush (v := 11) hx hb dX12_works_583 (by decide) ?_
                          refine lv_icmp_ne (tgt := 596) hx hb dX12_works_585 (by decide) (fun c_50 => ?_) (fun c_50 => ?_)
                          · refine lv_iload_n hx hb dX12_works_596 rfl (lv_at hl 10 rfl) ?_
                            refine lv_bipush (v := 12) hx hb dX12_works_597 (by decide) ?_
                            refine lv_icmp_ne (tgt := 615) hx hb dX12_works_599 (by decide) (fun c_51 => ?_) (fun c_51 => ?_)
                            · exact absurd (by decide) c_51
                            · refine lv_iload hx hb dX12_works_602 (lv_at hl 1 rfl) ?_
                              refine lv_if_ne (tgt := 624) hx hb dX12_works_604 (by decide) (fun c_52 => ?_) (fun c_52 => ?_)
                              · exact absurd (by decide) c_52
                              · refine lv_iload hx hb dX12_works_607 (lv_at hl 0 rfl) ?_
                                refine lv_if_ne (tgt := 624) hx hb dX12_works_609 (by decide) (fun c_53 => ?_) (fun c_53 => ?_)
                                · exact absurd (by decide) c_53
                                · refine lv_goto (tgt := 620) hx hb dX12_works_612 (by decide) ?_
                                  refine lv_iconst (v := 1) hx hb dX12_works_620 (by decide) ?_
                                  refine lv_goto (tgt := 625) hx hb dX12_works_621 (by decide) ?_
                                  refine va_iast hx hb hK hP hD hS 49 2 mwd_a49 rfl (x_in (by omega) (by omega)) dX12_works_625 (fun H locs hP hD hS => ?_)
                                  obtain ⟨f_54, ef_54⟩ : ∃ z9 : Nat → Int32, z9 = (upd (σ.2.2.1 72) (Int32.toNatClampNeg i_30) 1) := ⟨_, rfl⟩
                                  have hP : va_P D vwCl (mwd y ad zw (tI (sJ (sJ (sI (sJ (sJ (sI (tI (sI (tI (sI σ 44 0) 63 f_28) 73 i_30) 66 f_35) 44 n_36) 42 j_37) 43 j_38) 68 n_39) 69 j_40) 70 j_41) 72 f_54)) H := by rw [ef_54]; exact x_trP hP mwd_s49
                                  have hD : va_D A (mwd y ad zw (tI (sJ (sJ (sI (sJ (sJ (sI (tI (sI (tI (sI σ 44 0) 63 f_28) 73 i_30) 66 f_35) 44 n_36) 42 j_37) 43 j_38) 68 n_39) 69 j_40) 70 j_41) 72 f_54)) := by rw [ef_54]; exact x_trD hD mwd_s49
                                  have pf_54 : PT (false :: T) f_54 ((σ.2.2.1 62) 1).toInt := by rw [ef_54]; exact PT_pushF (PT_mono (by omega) hPT.2.2) (x_cl (by omega)) (by decide)
                                  refine lv_aload_n hx hb dX12_works_626 rfl (lv_at hl 8 rfl) ?_
                                  refine lv_dup hx hb dX12_works_627 rfl ?_
                                  refine va_get (D := D) (ci := 11) (v := .int i_30) (C := RX12) (T := TX12) (N := 85) hx hb hts inX12 hown hK hP 0 mwd_o0 rfl 73 (by decide) fl421 (fun _ h9 => h9) rfl dX12_works_628 ?_
                                  refine lv_iconst (v := 1) hx hb dX12_works_631 (by decide) ?_
                                  refine lv_iadd hx hb dX12_works_632 ?_
                                  refine lv_topi (fun i_55 ei_55 => ?_)
                                  have vi_55 : i_55.toInt = i_30.toInt + 1 := by have h9 := x_add ei_55 (by omega) (by omega); omega
                                  refine va_put (D := D) (ci := 11) (v := .int i_55) (ty := .int) (C := RX12) (T := TX12) (N := 85) hx hb hts inX12 tyX12 tyX12_ok nmX12 hown hK hP hD hS 0 mwd_o0 rfl 73 (by decide) fl421 (fun _ h9 => h9) rfl (by decide +kernel) rfl rfl (Nat.le_of_ble_eq_true rfl) dX12_works_633 (fun H locs hP hD hS => ?_)
                                  have hP : va_P D vwCl (mwd y ad zw (sI (tI (sJ (sJ (sI (sJ (sJ (sI (tI (sI (tI (sI σ 44 0) 63 f_28) 73 i_30) 66 f_35) 44 n_36) 42 j_37) 43 j_38) 68 n_39) 69 j_40) 70 j_41) 72 f_54) 73 i_55)) H := x_trP hP mwd_p0_73
                                  have hD : va_D A (mwd y ad zw (sI (tI (sJ (sJ (sI (sJ (sJ (sI (tI (sI (tI (sI σ 44 0) 63 f_28) 73 i_30) 66 f_35) 44 n_36) 42 j_37) 43 j_38) 68 n_39) 69 j_40) 70 j_41) 72 f_54) 73 i_55)) := x_trD hD mwd_p0_73
                                  refine lv_iconst (v := 1) hx hb dX12_works_636 (by decide) ?_
                                  have hP : va_P D vwCl (mwd y ad zw (tI (tI (tI (tI (tJ (tJ (sJ (sJ (sI (sJ (sJ (sI (tI (tI (tI (tI (sI σ 73 i_55) 72 f_54) 63 f_28) 67 (σ.2.2.1 67)) 66 f_35) 44 n_36) 42 j_37) 43 j_38) 68 n_39) 69 j_40) 70 j_41) 57 (σ.2.2.2 57)) 58 (σ.2.2.2 58)) 59 (σ.2.2.1 59)) 60 (σ.2.2.1 60)) 61 (σ.2.2.1 61)) 62 (σ.2.2.1 62))) H := hP
                                  have hD : va_D A (mwd y ad zw (tI (tI (tI (tI (tJ (tJ (sJ (sJ (sI (sJ (sJ (sI (tI (tI (tI (tI (sI σ 73 i_55) 72 f_54) 63 f_28) 67 (σ.2.2.1 67)) 66 f_35) 44 n_36) 42 j_37) 43 j_38) 68 n_39) 69 j_40) 70 j_41) 57 (σ.2.2.2 57)) 58 (σ.2.2.2 58)) 59 (σ.2.2.1 59)) 60 (σ.2.2.1 60)) 61 (σ.2.2.1 61)) 62 (σ.2.2.1 62))) := hD
                                  exact x_zretW (v := 1) (u := (i_55, f_54, f_28, (σ.2.2.1 67), f_35, n_36, j_37, j_38, n_39, j_40, j_41, (σ.2.2.2 57), (σ.2.2.2 58), (σ.2.2.1 59), (σ.2.2.1 60), (σ.2.2.1 61), (σ.2.2.1 62))) hx hb hr hQ rfl (by (try dsimp only); exact ⟨⟨Or.inr ⟨by omega, pf_54, by omega, rfl⟩, hop, by omega, by omega, rfl⟩, hB57, hB58, hB62, hvf_28⟩) hP hD hK hS dX12_works_637 hlocks
                          · exact absurd c_50 (by decide)
                        · have kc_49 : j_14.toInt = j_20.toInt := by have h9 := x_tri j_14 j_20; (try simp only [Int64.reduceToInt] at h9); rcases h9 with ⟨g1, g2⟩ | ⟨g1, g2⟩ | ⟨g1, g2⟩ <;> first | omega | (exfalso; rw [g1] at c_49; revert c_49; decide)
                          refine lv_iconst (v := 1) hx hb dX12_works_567 (by decide) ?_
                          refine lv_goto (tgt := 572) hx hb dX12_works_568 (by decide) ?_
                          refine lv_istore (lv' := [(14, .int 1), (13, .int 0), (11, .long j_20), (9, .long j_17), (7, .long j_14), (5, .long j_11), (4, .int i_8), (3, .int i_5), (0, .ref (ad 1)), (1, .int 1), (2, .int 12)]) hx hb dX12_works_572 hl (by decide) rfl (fun ls hl => ?_)
                          refine lv_aload_n hx hb dX12_works_574 rfl (lv_at hl 8 rfl) ?_
                          refine va_get (D := D) (ci := 11) (v := .ref (ad 72)) (C := RX12) (T := TX12) (N := 85) hx hb hts inX12 hown hK hP 0 mwd_o0 rfl 72 (by decide) fl160 (fun _ h9 => h9) rfl dX12_works_575 ?_
                          refine lv_aload_n hx hb dX12_works_578 rfl (lv_at hl 8 rfl) ?_
                          refine va_get (D := D) (ci := 11) (v := .int i_30) (C := RX12) (T := TX12) (N := 85) hx hb hts inX12 hown hK hP 0 mwd_o0 rfl 73 (by decide) fl421 (fun _ h9 => h9) rfl dX12_works_579 ?_
                          refine lv_iload_n hx hb dX12_works_582 rfl (lv_at hl 10 rfl) ?_
                          refine lv_bipush (v := 11) hx hb dX12_works_583 (by decide) ?_
                          refine lv_icmp_ne (tgt := 596) hx hb dX12_works_585 (by decide) (fun c_56 => ?_) (fun c_56 => ?_)
                          · refine lv_iload_n hx hb dX12_works_596 rfl (lv_at hl 10 rfl) ?_
                            refine lv_bipush (v := 12) hx hb dX12_works_597 (by decide) ?_
                            refine lv_icmp_ne (tgt := 615) hx hb dX12_works_599 (by decide) (fun c_57 => ?_) (fun c_57 => ?_)
                            · exact absurd (by decide) c_57
                            · refine lv_iload hx hb dX12_works_602 (lv_at hl 1 rfl) ?_
                              refine lv_if_ne (tgt := 624) hx hb dX12_works_604 (by decide) (fun c_58 => ?_) (fun c_58 => ?_)
                              · exact absurd (by decide) c_58
                              · refine lv_iload hx hb dX12_works_607 (lv_at hl 0 rfl) ?_
                                refine lv_if_ne (tgt := 624) hx hb dX12_works_609 (by decide) (fun c_59 => ?_) (fun c_59 => ?_)
                                · refine lv_iconst (v := 0) hx hb dX12_works_624 (by decide) ?_
                                  refine va_iast hx hb hK hP hD hS 49 2 mwd_a49 rfl (x_in (by omega) (by omega)) dX12_works_625 (fun H locs hP hD hS => ?_)
                                  obtain ⟨f_60, ef_60⟩ : ∃ z9 : Nat → Int32, z9 = (upd (σ.2.2.1 72) (Int32.toNatClampNeg i_30) 0) := ⟨_, rfl⟩
                                  have hP : va_P D vwCl (mwd y ad zw (tI (sJ (sJ (sI (sJ (sJ (sI (tI (sI (tI (sI σ 44 0) 63 f_28) 73 i_30) 66 f_35) 44 n_36) 42 j_37) 43 j_38) 68 n_39) 69 j_40) 70 j_41) 72 f_60)) H := by rw [ef_60]; exact x_trP hP mwd_s49
                                  have hD : va_D A (mwd y ad zw (tI (sJ (sJ (sI (sJ (sJ (sI (tI (sI (tI (sI σ 44 0) 63 f_28) 73 i_30) 66 f_35) 44 n_36) 42 j_37) 43 j_38) 68 n_39) 69 j_40) 70 j_41) 72 f_60)) := by rw [ef_60]; exact x_trD hD mwd_s49
                                  have pf_60 : PT (false :: T) f_60 ((σ.2.2.1 62) 1).toInt := by rw [ef_60]; exact PT_pushF (PT_mono (by omega) hPT.2.2) (x_cl (by omega)) (by decide)
                                  refine lv_aload_n hx hb dX12_works_626 rfl (lv_at hl 8 rfl) ?_
                                  refine lv_dup hx hb dX12_works_627 rfl ?_
                                  refine va_get (D := D) (ci := 11) (v := .int i_30) (C := RX12) (T := TX12) (N := 85) hx hb hts inX12 hown hK hP 0 mwd_o0 rfl 73 (by decide) fl421 (fun _ h9 => h9) rfl dX12_works_628 ?_
                                  refine lv_iconst (v := 1) hx hb dX12_works_631 (by decide) ?_
                                  refine lv_iadd hx hb dX12_works_632 ?_
                                  refine lv_topi (fun i_61 ei_61 => ?_)
                                  have vi_61 : i_61.toInt = i_30.toInt + 1 := by have h9 := x_add ei_61 (by omega) (by omega); omega
                                  refine va_put (D := D) (ci := 11) (v := .int i_61) (ty := .int) (C := RX12) (T := TX12) (N := 85) hx hb hts inX12 tyX12 tyX12_ok nmX12 hown hK hP hD hS 0 mwd_o0 rfl 73 (by decide) fl421 (fun _ h9 => h9) rfl (by decide +kernel) rfl rfl (Nat.le_of_ble_eq_true rfl) dX12_works_633 (fun H locs hP hD hS => ?_)
                                  have hP : va_P D vwCl (mwd y ad zw (sI (tI (sJ (sJ (sI (sJ (sJ (sI (tI (sI (tI (sI σ 44 0) 63 f_28) 73 i_30) 66 f_35) 44 n_36) 42 j_37) 43 j_38) 68 n_39) 69 j_40) 70 j_41) 72 f_60) 73 i_61)) H := x_trP hP mwd_p0_73
                                  have hD : va_D A (mwd y ad zw (sI (tI (sJ (sJ (sI (sJ (sJ (sI (tI (sI (tI (sI σ 44 0) 63 f_28) 73 i_30) 66 f_35) 44 n_36) 42 j_37) 43 j_38) 68 n_39) 69 j_40) 70 j_41) 72 f_60) 73 i_61)) := x_trD hD mwd_p0_73
                                  refine lv_iconst (v := 1) hx hb dX12_works_636 (by decide) ?_
                                  have hP : va_P D vwCl (mwd y ad zw (tI (tI (tI (tI (tJ (tJ (sJ (sJ (sI (sJ (sJ (sI (tI (tI (tI (tI (sI σ 73 i_61) 72 f_60) 63 f_28) 67 (σ.2.2.1 67)) 66 f_35) 44 n_36) 42 j_37) 43 j_38) 68 n_39) 69 j_40) 70 j_41) 57 (σ.2.2.2 57)) 58 (σ.2.2.2 58)) 59 (σ.2.2.1 59)) 60 (σ.2.2.1 60)) 61 (σ.2.2.1 61)) 62 (σ.2.2.1 62))) H := hP
                                  have hD : va_D A (mwd y ad zw (tI (tI (tI (tI (tJ (tJ (sJ (sJ (sI (sJ (sJ (sI (tI (tI (tI (tI (sI σ 73 i_61) 72 f_60) 63 f_28) 67 (σ.2.2.1 67)) 66 f_35) 44 n_36) 42 j_37) 43 j_38) 68 n_39) 69 j_40) 70 j_41) 57 (σ.2.2.2 57)) 58 (σ.2.2.2 58)) 59 (σ.2.2.1 59)) 60 (σ.2.2.1 60)) 61 (σ.2.2.1 61)) 62 (σ.2.2.1 62))) := hD
                                  exact x_zretW (v := 1) (u := (i_61, f_60, f_28, (σ.2.2.1 67), f_35, n_36, j_37, j_38, n_39, j_40, j_41, (σ.2.2.2 57), (σ.2.2.2 58), (σ.2.2.1 59), (σ.2.2.1 60), (σ.2.2.1 61), (σ.2.2.1 62))) hx hb hr hQ rfl (by (try dsimp only); exact ⟨⟨Or.inr ⟨by omega, pf_60, by omega, rfl⟩, hop, by omega, by omega, rfl⟩, hB57, hB58, hB62, hvf_28⟩) hP hD hK hS dX12_works_637 hlocks
                                · exact absurd c_59 (by decide)
                          · exact absurd c_56 (by decide)
                    · exact absurd c_34 (by decide)
                · exact absurd c_32 (by decide)
              · exact absurd (by decide) c_31
            · exact absurd c_29 (by decide)
          · exact absurd (by decide) c_25
        · have kc_23 : j_21.toInt < j_22.toInt := by have h9 := x_tri j_21 j_22; (try simp only [Int64.reduceToInt] at h9); rcases h9 with ⟨g1, g2⟩ | ⟨g1, g2⟩ | ⟨g1, g2⟩ <;> first | omega | (exfalso; rw [g1] at c_23; revert c_23; decide)
          refine lv_iconst (v := 1) hx hb dX12_works_148 (by decide) ?_
          refine lv_goto (tgt := 153) hx hb dX12_works_149 (by decide) ?_
          refine lv_istore (lv' := [(13, .int 1), (11, .long j_20), (9, .long j_17), (7, .long j_14), (5, .long j_11), (4, .int i_8), (3, .int i_5), (0, .ref (ad 1)), (1, .int 1), (2, .int 12)]) hx hb dX12_works_153 hl (by decide) rfl (fun ls hl => ?_)
          refine lv_aload_n hx hb dX12_works_155 rfl (lv_at hl 7 rfl) ?_
          refine lv_iconst (v := 0) hx hb dX12_works_156 (by decide) ?_
          refine va_put (D := D) (ci := 11) (v := .int 0) (ty := .boolean) (C := RX12) (T := TX12) (N := 85) hx hb hts inX12 tyX12 tyX12_ok nmX12 hown hK hP hD hS 0 mwd_o0 rfl 44 (by decide) fl384 (fun _ h9 => h9) rfl (by decide +kernel) rfl rfl (Nat.le_of_ble_eq_true rfl) dX12_works_157 (fun H locs hP hD hS => ?_)
          have hP : va_P D vwCl (mwd y ad zw (sI σ 44 0)) H := x_trP hP mwd_p0_44
          have hD : va_D A (mwd y ad zw (sI σ 44 0)) := x_trD hD mwd_p0_44
          refine lv_iload_n hx hb dX12_works_160 rfl (lv_at hl 9 rfl) ?_
          refine lv_tableOut (tgt := 252) hx hb dX12_works_161 (by decide) (by decide) ?_
          refine lv_aload_n hx hb dX12_works_252 rfl (lv_at hl 7 rfl) ?_
          refine va_get (D := D) (ci := 11) (v := .int 0) (C := RX12) (T := TX12) (N := 85) hx hb hts inX12 hown hK hP 0 mwd_o0 rfl 44 (by decide) fl384 (fun _ h9 => h9) rfl dX12_works_253 ?_
          refine lv_if_eq (tgt := 268) hx hb dX12_works_256 (by decide) (fun c_63 => ?_) (fun c_63 => ?_)
          · refine lv_aload_n hx hb dX12_works_268 rfl (lv_at hl 7 rfl) ?_
            refine va_get (D := D) (ci := 11) (v := .ref (ad 63)) (C := RX12) (T := TX12) (N := 85) hx hb hts inX12 hown hK hP 0 mwd_o0 rfl 63 (by decide) fl142 (fun _ h9 => h9) rfl dX12_works_269 ?_
            refine lv_iload_n hx hb dX12_works_272 rfl (lv_at hl 8 rfl) ?_
            refine lv_dup2_11 hx hb dX12_works_273 rfl rfl ?_
            refine va_iald hx hb hK hP 43 2 mwd_a43 rfl (x_in (by decide) (by decide)) dX12_works_274 ?_
            refine lv_topi (fun i_64 ei_64 => ?_)
            have ei_64 : i_64 = (σ.2.2.1 63) (Int32.toNatClampNeg 1) := ei_64
            have gi_64 : i_64.toInt = (σ.2.2.1 63 1).toInt := by rw [ei_64]; rfl
            have bi_64 := b_at hB63 ei_64
            refine lv_iconst (v := 1) hx hb dX12_works_275 (by decide) ?_
            refine lv_iadd hx hb dX12_works_276 ?_
            refine lv_topi (fun i_65 ei_65 => ?_)
            have vi_65 : i_65.toInt = i_64.toInt + 1 := by have h9 := x_add ei_65 (by omega) (by omega); omega
            refine va_iast hx hb hK hP hD hS 43 2 mwd_a43 rfl (x_in (by decide) (by decide)) dX12_works_277 (fun H locs hP hD hS => ?_)
            obtain ⟨f_66, ef_66⟩ : ∃ z9 : Nat → Int32, z9 = (upd (σ.2.2.1 63) (Int32.toNatClampNeg 1) i_65) := ⟨_, rfl⟩
            have hP : va_P D vwCl (mwd y ad zw (tI (sI σ 44 0) 63 f_66)) H := by rw [ef_66]; exact x_trP hP mwd_s43
            have hD : va_D A (mwd y ad zw (tI (sI σ 44 0) 63 f_66)) := by rw [ef_66]; exact x_trD hD mwd_s43
            have hvf_66 : bI f_66 0 1000 := by rw [ef_66]; exact b_upd hB63 (by omega) (by omega)
            have sf_66 : (f_66 1).toInt = i_65.toInt := by rw [ef_66]; exact congrArg Int32.toInt (x_upd_same _ 1 _)
            refine lv_aload_n hx hb dX12_works_278 rfl (lv_at hl 7 rfl) ?_
            refine lv_dup hx hb dX12_works_279 rfl ?_
            refine va_get (D := D) (ci := 11) (v := .int (σ.1 73)) (C := RX12) (T := TX12) (N := 85) hx hb hts inX12 hown hK hP 0 mwd_o0 rfl 73 (by decide) fl421 (fun _ h9 => h9) rfl dX12_works_280 ?_
            refine lv_iload_n hx hb dX12_works_283 rfl (lv_at hl 9 rfl) ?_
            refine lv_bipush (v := 7) hx hb dX12_works_284 (by decide) ?_
            refine lv_icmp_ne (tgt := 293) hx hb dX12_works_286 (by decide) (fun c_67 => ?_) (fun c_67 => ?_)
            · refine lv_iconst (v := 2) hx hb dX12_works_293 (by decide) ?_
              refine lv_isub hx hb dX12_works_294 ?_
              refine lv_topi (fun i_68 ei_68 => ?_)
              have vi_68 : i_68.toInt = (σ.1 73).toInt - 2 := by have h9 := x_sub ei_68 (by omega) (by omega); omega
              refine va_put (D := D) (ci := 11) (v := .int i_68) (ty := .int) (C := RX12) (T := TX12) (N := 85) hx hb hts inX12 tyX12 tyX12_ok nmX12 hown hK hP hD hS 0 mwd_o0 rfl 73 (by decide) fl421 (fun _ h9 => h9) rfl (by decide +kernel) rfl rfl (Nat.le_of_ble_eq_true rfl) dX12_works_295 (fun H locs hP hD hS => ?_)
              have hP : va_P D vwCl (mwd y ad zw (sI (tI (sI σ 44 0) 63 f_66) 73 i_68)) H := x_trP hP mwd_p0_73
              have hD : va_D A (mwd y ad zw (sI (tI (sI σ 44 0) 63 f_66) 73 i_68)) := x_trD hD mwd_p0_73
              refine lv_iload_n hx hb dX12_works_298 rfl (lv_at hl 9 rfl) ?_
              refine lv_iconst (v := 4) hx hb dX12_works_299 (by decide) ?_
              refine lv_icmp_gt (tgt := 340) hx hb dX12_works_300 (by decide) (fun c_69 => ?_) (fun c_69 => ?_)
              · refine lv_iload_n hx hb dX12_works_340 rfl (lv_at hl 9 rfl) ?_
                refine lv_bipush (v := 7) hx hb dX12_works_341 (by decide) ?_
                refine lv_icmp_ne (tgt := 394) hx hb dX12_works_343 (by decide) (fun c_70 => ?_) (fun c_70 => ?_)
                · refine lv_iload_n hx hb dX12_works_394 rfl (lv_at hl 9 rfl) ?_
                  refine lv_iconst (v := 5) hx hb dX12_works_395 (by decide) ?_
                  refine lv_icmp_eq (tgt := 405) hx hb dX12_works_396 (by decide) (fun c_71 => ?_) (fun c_71 => ?_)
                  · exact absurd c_71 (by decide)
                  · refine lv_iload_n hx hb dX12_works_399 rfl (lv_at hl 9 rfl) ?_
                    refine lv_bipush (v := 6) hx hb dX12_works_400 (by decide) ?_
                    refine lv_icmp_ne (tgt := 538) hx hb dX12_works_402 (by decide) (fun c_72 => ?_) (fun c_72 => ?_)
                    · refine lv_aload_n hx hb dX12_works_538 rfl (lv_at hl 7 rfl) ?_
                      refine lv_iload_n hx hb dX12_works_539 rfl (lv_at hl 8 rfl) ?_
                      refine lv_lload hx hb dX12_works_540 (lv_at hl 4 rfl) ?_
                      refine lv_lload hx hb dX12_works_542 (lv_at hl 3 rfl) ?_
                      refine lv_lload hx hb dX12_works_544 (lv_at hl 2 rfl) ?_
                      refine lv_lload hx hb dX12_works_546 (lv_at hl 1 rfl) ?_
                      refine x_callvW (va_runV (As := [.int 1, .long j_11, .long j_14, .long j_17, .long j_20]) (rest := []) ⟨hx, hb, hml, hown, hts⟩ (q_nears1 l D y H.size ad zw (sI (tI (sI σ 44 0) 63 f_66) 73 i_68) j_11 j_14 j_17 j_20 (by first | omega | decide) (by first | omega | decide) (by first | omega | decide) (by first | omega | decide) (by first | omega | decide) (by first | omega | decide) (by first | omega | decide) (by first | omega | decide)) (cwV 5 hts g_q_works1_12_0 rfl rfl rfl (by decide +kernel) ⟨Nat.le_of_ble_eq_true rfl, Nat.le_of_ble_eq_true rfl⟩) (x_preV (q := (RX12, TX12, 85)) hK hP hD (ci := 11) (q0 := 0) rfl mwd_o0) rfl rfl hl.1 rfl (lv_room (Nat.le_of_ble_eq_true rfl)) dX12_works_548 ⟨Nat.le_of_ble_eq_true rfl, Nat.le_of_ble_eq_true rfl⟩) hP hD hS hA (fun u H locs hw hP hD hS => ?_)
                      obtain ⟨f_73, n_74, j_75, j_76, n_77, j_78, j_79⟩ := u
                      try dsimp only at hw
                      have hP : va_P D vwCl (mwd y ad zw (sJ (sJ (sI (sJ (sJ (sI (tI (sI (tI (sI σ 44 0) 63 f_66) 73 i_68) 66 f_73) 44 n_74) 42 j_75) 43 j_76) 68 n_77) 69 j_78) 70 j_79)) H := hP
                      have hD : va_D A (mwd y ad zw (sJ (sJ (sI (sJ (sJ (sI (tI (sI (tI (sI σ 44 0) 63 f_66) 73 i_68) 66 f_73) 44 n_74) 42 j_75) 43 j_76) 68 n_77) 69 j_78) 70 j_79)) := hD
                      have hw : True := hw
                      refine lv_lload hx hb dX12_works_551 (lv_at hl 4 rfl) ?_
                      refine lv_lload hx hb dX12_works_553 (lv_at hl 2 rfl) ?_
                      refine W.lcmp hx hb dX12_works_555 ?_
                      refine lv_if_ne (tgt := 571) hx hb dX12_works_556 (by decide) (fun c_80 => ?_) (fun c_80 => ?_)
                      · have kc_80 : j_11.toInt ≠ j_17.toInt := by have h9 := x_tri j_11 j_17; (try simp only [Int64.reduceToInt] at h9); rcases h9 with ⟨g1, g2⟩ | ⟨g1, g2⟩ | ⟨g1, g2⟩ <;> first | omega | (exfalso; rw [g1] at c_80; revert c_80; decide)
                        refine lv_iconst (v := 0) hx hb dX12_works_571 (by decide) ?_
                        refine lv_istore (lv' := [(14, .int 0), (13, .int 1), (11, .long j_20), (9, .long j_17), (7, .long j_14), (5, .long j_11), (4, .int i_8), (3, .int i_5), (0, .ref (ad 1)), (1, .int 1), (2, .int 12)]) hx hb dX12_works_572 hl (by decide) rfl (fun ls hl => ?_)
                        refine lv_aload_n hx hb dX12_works_574 rfl (lv_at hl 8 rfl) ?_
                        refine va_get (D := D) (ci := 11) (v := .ref (ad 72)) (C := RX12) (T := TX12) (N := 85) hx hb hts inX12 hown hK hP 0 mwd_o0 rfl 72 (by decide) fl160 (fun _ h9 => h9) rfl dX12_works_575 ?_
                        refine lv_aload_n hx hb dX12_works_578 rfl (lv_at hl 8 rfl) ?_
                        refine va_get (D := D) (ci := 11) (v := .int i_68) (C := RX12) (T := TX12) (N := 85) hx hb hts inX12 hown hK hP 0 mwd_o0 rfl 73 (by decide) fl421 (fun _ h9 => h9) rfl dX12_works_579 ?_
                        refine lv_iload_n hx hb dX12_works_582 rfl (lv_at hl 10 rfl) ?_
                        refine lv_bipush (v := 11) hx hb dX12_works_583 (by decide) ?_
                        refine lv_icmp_ne (tgt := 596) hx hb dX12_works_585 (by decide) (fun c_81 => ?_) (fun c_81 => ?_)
                        · refine lv_iload_n hx hb dX12_works_596 rfl (lv_at hl 10 rfl) ?_
                          refine lv_bipush (v := 12) hx hb dX12_works_597 (by decide) ?_
                          refine lv_icmp_ne (tgt := 615) hx hb dX12_works_599 (by decide) (fun c_82 => ?_) (fun c_82 => ?_)
                          · exact absurd (by decide) c_82
                          · refine lv_iload hx hb dX12_works_602 (lv_at hl 1 rfl) ?_
                            refine lv_if_ne (tgt := 624) hx hb dX12_works_604 (by decide) (fun c_83 => ?_) (fun c_83 => ?_)
                            · refine lv_iconst (v := 0) hx hb dX12_works_624 (by decide) ?_
                              refine va_iast hx hb hK hP hD hS 49 2 mwd_a49 rfl (x_in (by omega) (by omega)) dX12_works_625 (fun H locs hP hD hS => ?_)
                              obtain ⟨f_84, ef_84⟩ : ∃ z9 : Nat → Int32, z9 = (upd (σ.2.2.1 72) (Int32.toNatClampNeg i_68) 0) := ⟨_, rfl⟩
                              have hP : va_P D vwCl (mwd y ad zw (tI (sJ (sJ (sI (sJ (sJ (sI (tI (sI (tI (sI σ 44 0) 63 f_66) 73 i_68) 66 f_73) 44 n_74) 42 j_75) 43 j_76) 68 n_77) 69 j_78) 70 j_79) 72 f_84)) H := by rw [ef_84]; exact x_trP hP mwd_s49
                              have hD : va_D A (mwd y ad zw (tI (sJ (sJ (sI (sJ (sJ (sI (tI (sI (tI (sI σ 44 0) 63 f_66) 73 i_68) 66 f_73) 44 n_74) 42 j_75) 43 j_76) 68 n_77) 69 j_78) 70 j_79) 72 f_84)) := by rw [ef_84]; exact x_trD hD mwd_s49
                              have pf_84 : PT (false :: T) f_84 ((σ.2.2.1 62) 1).toInt := by rw [ef_84]; exact PT_pushF (PT_mono (by omega) hPT.2.2) (x_cl (by omega)) (by decide)
                              refine lv_aload_n hx hb dX12_works_626 rfl (lv_at hl 8 rfl) ?_
                              refine lv_dup hx hb dX12_works_627 rfl ?_
                              refine va_get (D := D) (ci := 11) (v := .int i_68) (C := RX12) (T := TX12) (N := 85) hx hb hts inX12 hown hK hP 0 mwd_o0 rfl 73 (by decide) fl421 (fun _ h9 => h9) rfl dX12_works_628 ?_
                              refine lv_iconst (v := 1) hx hb dX12_works_631 (by decide) ?_
                              refine lv_iadd hx hb dX12_works_632 ?_
                              refine lv_topi (fun i_85 ei_85 => ?_)
                              have vi_85 : i_85.toInt = i_68.toInt + 1 := by have h9 := x_add ei_85 (by omega) (by omega); omega
                              refine va_put (D := D) (ci := 11) (v := .int i_85) (ty := .int) (C := RX12) (T := TX12) (N := 85) hx hb hts inX12 tyX12 tyX12_ok nmX12 hown hK hP hD hS 0 mwd_o0 rfl 73 (by decide) fl421 (fun _ h9 => h9) rfl (by decide +kernel) rfl rfl (Nat.le_of_ble_eq_true rfl) dX12_works_633 (fun H locs hP hD hS => ?_)
                              have hP : va_P D vwCl (mwd y ad zw (sI (tI (sJ (sJ (sI (sJ (sJ (sI (tI (sI (tI (sI σ 44 0) 63 f_66) 73 i_68) 66 f_73) 44 n_74) 42 j_75) 43 j_76) 68 n_77) 69 j_78) 70 j_79) 72 f_84) 73 i_85)) H := x_trP hP mwd_p0_73
                              have hD : va_D A (mwd y ad zw (sI (tI (sJ (sJ (sI (sJ (sJ (sI (tI (sI (tI (sI σ 44 0) 63 f_66) 73 i_68) 66 f_73) 44 n_74) 42 j_75) 43 j_76) 68 n_77) 69 j_78) 70 j_79) 72 f_84) 73 i_85)) := x_trD hD mwd_p0_73
                              refine lv_iconst (v := 1) hx hb dX12_works_636 (by decide) ?_
                              have hP : va_P D vwCl (mwd y ad zw (tI (tI (tI (tI (tJ (tJ (sJ (sJ (sI (sJ (sJ (sI (tI (tI (tI (tI (sI σ 73 i_85) 72 f_84) 63 f_66) 67 (σ.2.2.1 67)) 66 f_73) 44 n_74) 42 j_75) 43 j_76) 68 n_77) 69 j_78) 70 j_79) 57 (σ.2.2.2 57)) 58 (σ.2.2.2 58)) 59 (σ.2.2.1 59)) 60 (σ.2.2.1 60)) 61 (σ.2.2.1 61)) 62 (σ.2.2.1 62))) H := hP
                              have hD : va_D A (mwd y ad zw (tI (tI (tI (tI (tJ (tJ (sJ (sJ (sI (sJ (sJ (sI (tI (tI (tI (tI (sI σ 73 i_85) 72 f_84) 63 f_66) 67 (σ.2.2.1 67)) 66 f_73) 44 n_74) 42 j_75) 43 j_76) 68 n_77) 69 j_78) 70 j_79) 57 (σ.2.2.2 57)) 58 (σ.2.2.2 58)) 59 (σ.2.2.1 59)) 60 (σ.2.2.1 60)) 61 (σ.2.2.1 61)) 62 (σ.2.2.1 62))) := hD
                              exact x_zretW (v := 1) (u := (i_85, f_84, f_66, (σ.2.2.1 67), f_73, n_74, j_75, j_76, n_77, j_78, j_79, (σ.2.2.2 57), (σ.2.2.2 58), (σ.2.2.1 59), (σ.2.2.1 60), (σ.2.2.1 61), (σ.2.2.1 62))) hx hb hr hQ rfl (by (try dsimp only); exact ⟨⟨Or.inr ⟨by omega, pf_84, by omega, rfl⟩, hop, by omega, by omega, rfl⟩, hB57, hB58, hB62, hvf_66⟩) hP hD hK hS dX12_works_637 hlocks
                            · exact absurd c_83 (by decide)
                        · exact absurd c_81 (by decide)
                      · have kc_80 : j_11.toInt = j_17.toInt := by have h9 := x_tri j_11 j_17; (try simp only [Int64.reduceToInt] at h9); rcases h9 with ⟨g1, g2⟩ | ⟨g1, g2⟩ | ⟨g1, g2⟩ <;> first | omega | (exfalso; rw [g1] at c_80; revert c_80; decide)
                        refine lv_lload hx hb dX12_works_559 (lv_at hl 3 rfl) ?_
                        refine lv_lload hx hb dX12_works_561 (lv_at hl 1 rfl) ?_
                        refine W.lcmp hx hb dX12_works_563 ?_
                        refine lv_if_ne (tgt := 571) hx hb dX12_works_564 (by decide) (fun c_86 => ?_) (fun c_86 => ?_)
                        · have kc_86 : j_14.toInt ≠ j_20.toInt := by have h9 := x_tri j_14 j_20; (try simp only [Int64.reduceToInt] at h9); rcases h9 with ⟨g1, g2⟩ | ⟨g1, g2⟩ | ⟨g1, g2⟩ <;> first | omega | (exfalso; rw [g1] at c_86; revert c_86; decide)
                          refine lv_iconst (v := 0) hx hb dX12_works_571 (by decide) ?_
                          refine lv_istore (lv' := [(14, .int 0), (13, .int 1), (11, .long j_20), (9, .long j_17), (7, .long j_14), (5, .long j_11), (4, .int i_8), (3, .int i_5), (0, .ref (ad 1)), (1, .int 1), (2, .int 12)]) hx hb dX12_works_572 hl (by decide) rfl (fun ls hl => ?_)
                          refine lv_aload_n hx hb dX12_works_574 rfl (lv_at hl 8 rfl) ?_
                          refine va_get (D := D) (ci := 11) (v := .ref (ad 72)) (C := RX12) (T := TX12) (N := 85) hx hb hts inX12 hown hK hP 0 mwd_o0 rfl 72 (by decide) fl160 (fun _ h9 => h9) rfl dX12_works_575 ?_
                          refine lv_aload_n hx hb dX12_works_578 rfl (lv_at hl 8 rfl) ?_
                          refine va_get (D := D) (ci := 11) (v := .int i_68) (C := RX12) (T := TX12) (N := 85) hx hb hts inX12 hown hK hP 0 mwd_o0 rfl 73 (by decide) fl421 (fun _ h9 => h9) rfl dX12_works_579 ?_
                          refine lv_iload_n hx hb dX12_works_582 rfl (lv_at hl 10 rfl) ?_
                          refine lv_bipush (v := 11) hx hb dX12_works_583 (by decide) ?_
                          refine lv_icmp_ne (tgt := 596) hx hb dX12_works_585 (by decide) (fun c_87 => ?_) (fun c_87 => ?_)
                          · refine lv_iload_n hx hb dX12_works_596 rfl (lv_at hl 10 rfl) ?_
                            refine lv_bipush (v := 12) hx hb dX12_works_597 (by decide) ?_
                            refine lv_icmp_ne (tgt := 615) hx hb dX12_works_599 (by decide) (fun c_88 => ?_) (fun c_88 => ?_)
                            · exact absurd (by decide) c_88
                            · refine lv_iload hx hb dX12_works_602 (lv_at hl 1 rfl) ?_
                              refine lv_if_ne (tgt := 624) hx hb dX12_works_604 (by decide) (fun c_89 => ?_) (fun c_89 => ?_)
                              · refine lv_iconst (v := 0) hx hb dX12_works_624 (by decide) ?_
                                refine va_iast hx hb hK hP hD hS 49 2 mwd_a49 rfl (x_in (by omega) (by omega)) dX12_works_625 (fun H locs hP hD hS => ?_)
                                obtain ⟨f_90, ef_90⟩ : ∃ z9 : Nat → Int32, z9 = (upd (σ.2.2.1 72) (Int32.toNatClampNeg i_68) 0) := ⟨_, rfl⟩
                                have hP : va_P D vwCl (mwd y ad zw (tI (sJ (sJ (sI (sJ (sJ (sI (tI (sI (tI (sI σ 44 0) 63 f_66) 73 i_68) 66 f_73) 44 n_74) 42 j_75) 43 j_76) 68 n_77) 69 j_78) 70 j_79) 72 f_90)) H := by rw [ef_90]; exact x_trP hP mwd_s49
                                have hD : va_D A (mwd y ad zw (tI (sJ (sJ (sI (sJ (sJ (sI (tI (sI (tI (sI σ 44 0) 63 f_66) 73 i_68) 66 f_73) 44 n_74) 42 j_75) 43 j_76) 68 n_77) 69 j_78) 70 j_79) 72 f_90)) := by rw [ef_90]; exact x_trD hD mwd_s49
                                have pf_90 : PT (false :: T) f_90 ((σ.2.2.1 62) 1).toInt := by rw [ef_90]; exact PT_pushF (PT_mono (by omega) hPT.2.2) (x_cl (by omega)) (by decide)
                                refine lv_aload_n hx hb dX12_works_626 rfl (lv_at hl 8 rfl) ?_
                                refine lv_dup hx hb dX12_works_627 rfl ?_
                                refine va_get (D := D) (ci := 11) (v := .int i_68) (C := RX12) (T := TX12) (N := 85) hx hb hts inX12 hown hK hP 0 mwd_o0 rfl 73 (by decide) fl421 (fun _ h9 => h9) rfl dX12_works_628 ?_
                                refine lv_iconst (v := 1) hx hb dX12_works_631 (by decide) ?_
                                refine lv_iadd hx hb dX12_works_632 ?_
                                refine lv_topi (fun i_91 ei_91 => ?_)
                                have vi_91 : i_91.toInt = i_68.toInt + 1 := by have h9 := x_add ei_91 (by omega) (by omega); omega
                                refine va_put (D := D) (ci := 11) (v := .int i_91) (ty := .int) (C := RX12) (T := TX12) (N := 85) hx hb hts inX12 tyX12 tyX12_ok nmX12 hown hK hP hD hS 0 mwd_o0 rfl 73 (by decide) fl421 (fun _ h9 => h9) rfl (by decide +kernel) rfl rfl (Nat.le_of_ble_eq_true rfl) dX12_works_633 (fun H locs hP hD hS => ?_)
                                have hP : va_P D vwCl (mwd y ad zw (sI (tI (sJ (sJ (sI (sJ (sJ (sI (tI (sI (tI (sI σ 44 0) 63 f_66) 73 i_68) 66 f_73) 44 n_74) 42 j_75) 43 j_76) 68 n_77) 69 j_78) 70 j_79) 72 f_90) 73 i_91)) H := x_trP hP mwd_p0_73
                                have hD : va_D A (mwd y ad zw (sI (tI (sJ (sJ (sI (sJ (sJ (sI (tI (sI (tI (sI σ 44 0) 63 f_66) 73 i_68) 66 f_73) 44 n_74) 42 j_75) 43 j_76) 68 n_77) 69 j_78) 70 j_79) 72 f_90) 73 i_91)) := x_trD hD mwd_p0_73
                                refine lv_iconst (v := 1) hx hb dX12_works_636 (by decide) ?_
                                have hP : va_P D vwCl (mwd y ad zw (tI (tI (tI (tI (tJ (tJ (sJ (sJ (sI (sJ (sJ (sI (tI (tI (tI (tI (sI σ 73 i_91) 72 f_90) 63 f_66) 67 (σ.2.2.1 67)) 66 f_73) 44 n_74) 42 j_75) 43 j_76) 68 n_77) 69 j_78) 70 j_79) 57 (σ.2.2.2 57)) 58 (σ.2.2.2 58)) 59 (σ.2.2.1 59)) 60 (σ.2.2.1 60)) 61 (σ.2.2.1 61)) 62 (σ.2.2.1 62))) H := hP
                                have hD : va_D A (mwd y ad zw (tI (tI (tI (tI (tJ (tJ (sJ (sJ (sI (sJ (sJ (sI (tI (tI (tI (tI (sI σ 73 i_91) 72 f_90) 63 f_66) 67 (σ.2.2.1 67)) 66 f_73) 44 n_74) 42 j_75) 43 j_76) 68 n_77) 69 j_78) 70 j_79) 57 (σ.2.2.2 57)) 58 (σ.2.2.2 58)) 59 (σ.2.2.1 59)) 60 (σ.2.2.1 60)) 61 (σ.2.2.1 61)) 62 (σ.2.2.1 62))) := hD
                                exact x_zretW (v := 1) (u := (i_91, f_90, f_66, (σ.2.2.1 67), f_73, n_74, j_75, j_76, n_77, j_78, j_79, (σ.2.2.2 57), (σ.2.2.2 58), (σ.2.2.1 59), (σ.2.2.1 60), (σ.2.2.1 61), (σ.2.2.1 62))) hx hb hr hQ rfl (by (try dsimp only); exact ⟨⟨Or.inr ⟨by omega, pf_90, by omega, rfl⟩, hop, by omega, by omega, rfl⟩, hB57, hB58, hB62, hvf_66⟩) hP hD hK hS dX12_works_637 hlocks
                              · exact absurd c_89 (by decide)
                          · exact absurd c_87 (by decide)
                        · have kc_86 : j_14.toInt = j_20.toInt := by have h9 := x_tri j_14 j_20; (try simp only [Int64.reduceToInt] at h9); rcases h9 with ⟨g1, g2⟩ | ⟨g1, g2⟩ | ⟨g1, g2⟩ <;> first | omega | (exfalso; rw [g1] at c_86; revert c_86; decide)
                          refine lv_iconst (v := 1) hx hb dX12_works_567 (by decide) ?_
                          refine lv_goto (tgt := 572) hx hb dX12_works_568 (by decide) ?_
                          refine lv_istore (lv' := [(14, .int 1), (13, .int 1), (11, .long j_20), (9, .long j_17), (7, .long j_14), (5, .long j_11), (4, .int i_8), (3, .int i_5), (0, .ref (ad 1)), (1, .int 1), (2, .int 12)]) hx hb dX12_works_572 hl (by decide) rfl (fun ls hl => ?_)
                          refine lv_aload_n hx hb dX12_works_574 rfl (lv_at hl 8 rfl) ?_
                          refine va_get (D := D) (ci := 11) (v := .ref (ad 72)) (C := RX12) (T := TX12) (N := 85) hx hb hts inX12 hown hK hP 0 mwd_o0 rfl 72 (by decide) fl160 (fun _ h9 => h9) rfl dX12_works_575 ?_
                          refine lv_aload_n hx hb dX12_works_578 rfl (lv_at hl 8 rfl) ?_
                          refine va_get (D := D) (ci := 11) (v := .int i_68) (C := RX12) (T := TX12) (N := 85) hx hb hts inX12 hown hK hP 0 mwd_o0 rfl 73 (by decide) fl421 (fun _ h9 => h9) rfl dX12_works_579 ?_
                          refine lv_iload_n hx hb dX12_works_582 rfl (lv_at hl 10 rfl) ?_
                          refine lv_bipush (v := 11) hx hb dX12_works_583 (by decide) ?_
                          refine lv_icmp_ne (tgt := 596) hx hb dX12_works_585 (by decide) (fun c_92 => ?_) (fun c_92 => ?_)
                          · refine lv_iload_n hx hb dX12_works_596 rfl (lv_at hl 10 rfl) ?_
                            refine lv_bipush (v := 12) hx hb dX12_works_597 (by decide) ?_
                            refine lv_icmp_ne (tgt := 615) hx hb dX12_works_599 (by decide) (fun c_93 => ?_) (fun c_93 => ?_)
                            · exact absurd (by decide) c_93
                            · refine lv_iload hx hb dX12_works_602 (lv_at hl 1 rfl) ?_
                              refine lv_if_ne (tgt := 624) hx hb dX12_works_604 (by decide) (fun c_94 => ?_) (fun c_94 => ?_)
                              · refine lv_iconst (v := 0) hx hb dX12_works_624 (by decide) ?_
                                refine va_iast hx hb hK hP hD hS 49 2 mwd_a49 rfl (x_in (by omega) (by omega)) dX12_works_625 (fun H locs hP hD hS => ?_)
                                obtain ⟨f_95, ef_95⟩ : ∃ z9 : Nat → Int32, z9 = (upd (σ.2.2.1 72) (Int32.toNatClampNeg i_68) 0) := ⟨_, rfl⟩
                                have hP : va_P D vwCl (mwd y ad zw (tI (sJ (sJ (sI (sJ (sJ (sI (tI (sI (tI (sI σ 44 0) 63 f_66) 73 i_68) 66 f_73) 44 n_74) 42 j_75) 43 j_76) 68 n_77) 69 j_78) 70 j_79) 72 f_95)) H := by rw [ef_95]; exact x_trP hP mwd_s49
                                have hD : va_D A (mwd y ad zw (tI (sJ (sJ (sI (sJ (sJ (sI (tI (sI (tI (sI σ 44 0) 63 f_66) 73 i_68) 66 f_73) 44 n_74) 42 j_75) 43 j_76) 68 n_77) 69 j_78) 70 j_79) 72 f_95)) := by rw [ef_95]; exact x_trD hD mwd_s49
                                have pf_95 : PT (false :: T) f_95 ((σ.2.2.1 62) 1).toInt := by rw [ef_95]; exact PT_pushF (PT_mono (by omega) hPT.2.2) (x_cl (by omega)) (by decide)
                                refine lv_aload_n hx hb dX12_works_626 rfl (lv_at hl 8 rfl) ?_
                                refine lv_dup hx hb dX12_works_627 rfl ?_
                                refine va_get (D := D) (ci := 11) (v := .int i_68) (C := RX12) (T := TX12) (N := 85) hx hb hts inX12 hown hK hP 0 mwd_o0 rfl 73 (by decide) fl421 (fun _ h9 => h9) rfl dX12_works_628 ?_
                                refine lv_iconst (v := 1) hx hb dX12_works_631 (by decide) ?_
                                refine lv_iadd hx hb dX12_works_632 ?_
                                refine lv_topi (fun i_96 ei_96 => ?_)
                                have vi_96 : i_96.toInt = i_68.toInt + 1 := by have h9 := x_add ei_96 (by omega) (by omega); omega
                                refine va_put (D := D) (ci := 11) (v := .int i_96) (ty := .int) (C := RX12) (T := TX12) (N := 85) hx hb hts inX12 tyX12 tyX12_ok nmX12 hown hK hP hD hS 0 mwd_o0 rfl 73 (by decide) fl421 (fun _ h9 => h9) rfl (by decide +kernel) rfl rfl (Nat.le_of_ble_eq_true rfl) dX12_works_633 (fun H locs hP hD hS => ?_)
                                have hP : va_P D vwCl (mwd y ad zw (sI (tI (sJ (sJ (sI (sJ (sJ (sI (tI (sI (tI (sI σ 44 0) 63 f_66) 73 i_68) 66 f_73) 44 n_74) 42 j_75) 43 j_76) 68 n_77) 69 j_78) 70 j_79) 72 f_95) 73 i_96)) H := x_trP hP mwd_p0_73
                                have hD : va_D A (mwd y ad zw (sI (tI (sJ (sJ (sI (sJ (sJ (sI (tI (sI (tI (sI σ 44 0) 63 f_66) 73 i_68) 66 f_73) 44 n_74) 42 j_75) 43 j_76) 68 n_77) 69 j_78) 70 j_79) 72 f_95) 73 i_96)) := x_trD hD mwd_p0_73
                                refine lv_iconst (v := 1) hx hb dX12_works_636 (by decide) ?_
                                have hP : va_P D vwCl (mwd y ad zw (tI (tI (tI (tI (tJ (tJ (sJ (sJ (sI (sJ (sJ (sI (tI (tI (tI (tI (sI σ 73 i_96) 72 f_95) 63 f_66) 67 (σ.2.2.1 67)) 66 f_73) 44 n_74) 42 j_75) 43 j_76) 68 n_77) 69 j_78) 70 j_79) 57 (σ.2.2.2 57)) 58 (σ.2.2.2 58)) 59 (σ.2.2.1 59)) 60 (σ.2.2.1 60)) 61 (σ.2.2.1 61)) 62 (σ.2.2.1 62))) H := hP
                                have hD : va_D A (mwd y ad zw (tI (tI (tI (tI (tJ (tJ (sJ (sJ (sI (sJ (sJ (sI (tI (tI (tI (tI (sI σ 73 i_96) 72 f_95) 63 f_66) 67 (σ.2.2.1 67)) 66 f_73) 44 n_74) 42 j_75) 43 j_76) 68 n_77) 69 j_78) 70 j_79) 57 (σ.2.2.2 57)) 58 (σ.2.2.2 58)) 59 (σ.2.2.1 59)) 60 (σ.2.2.1 60)) 61 (σ.2.2.1 61)) 62 (σ.2.2.1 62))) := hD
                                exact x_zretW (v := 1) (u := (i_96, f_95, f_66, (σ.2.2.1 67), f_73, n_74, j_75, j_76, n_77, j_78, j_79, (σ.2.2.2 57), (σ.2.2.2 58), (σ.2.2.1 59), (σ.2.2.1 60), (σ.2.2.1 61), (σ.2.2.1 62))) hx hb hr hQ rfl (by (try dsimp only); exact ⟨⟨Or.inr ⟨by omega, pf_95, by omega, rfl⟩, hop, by omega, by omega, rfl⟩, hB57, hB58, hB62, hvf_66⟩) hP hD hK hS dX12_works_637 hlocks
                              · exact absurd c_94 (by decide)
                          · exact absurd c_92 (by decide)
                    · exact absurd c_72 (by decide)
                · exact absurd c_70 (by decide)
              · exact absurd (by decide) c_69
            · exact absurd c_67 (by decide)
          · exact absurd (by decide) c_63
      · exact absurd c_6 (by decide)
    · exact absurd c_3 (by decide)
  · have kc_2 : i_1.toInt = 1000 := by have h9 := c_2; simp only [ge_iff_le, gt_iff_lt, x_lt, x_le, x_eq, ne_eq, Int32.not_lt, Int32.not_le] at h9; simp only [Int32.reduceToInt] at h9; omega
    refine lv_aload_n hx hb dX12_works_12 rfl (lv_at hl 0 rfl) ?_
    refine va_get (D := D) (ci := 11) (v := .ref (ad 67)) (C := RX12) (T := TX12) (N := 85) hx hb hts inX12 hown hK hP 0 mwd_o0 rfl 67 (by decide) fl154 (fun _ h9 => h9) rfl dX12_works_13 ?_
    refine lv_iload_n hx hb dX12_works_16 rfl (lv_at hl 1 rfl) ?_
    refine lv_iconst (v := 2) hx hb dX12_works_17 (by decide) ?_
    refine va_iast hx hb hK hP hD hS 47 2 mwd_a47 rfl (x_in (by decide) (by decide)) dX12_works_18 (fun H locs hP hD hS => ?_)
    obtain ⟨f_97, ef_97⟩ : ∃ z9 : Nat → Int32, z9 = (upd (σ.2.2.1 67) (Int32.toNatClampNeg 1) 2) := ⟨_, rfl⟩
    have hP : va_P D vwCl (mwd y ad zw (tI σ 67 f_97)) H := by rw [ef_97]; exact x_trP hP mwd_s47
    have hD : va_D A (mwd y ad zw (tI σ 67 f_97)) := by rw [ef_97]; exact x_trD hD mwd_s47
    refine lv_iconst (v := 0) hx hb dX12_works_19 (by decide) ?_
    have hP : va_P D vwCl (mwd y ad zw (tI (tI (tI (tI (tJ (tJ (sJ (sJ (sI (sJ (sJ (sI (tI (tI (tI (tI (sI σ 73 (σ.1 73)) 72 (σ.2.2.1 72)) 63 (σ.2.2.1 63)) 67 f_97) 66 (σ.2.2.1 66)) 44 (σ.1 44)) 42 (σ.2.1 42)) 43 (σ.2.1 43)) 68 (σ.1 68)) 69 (σ.2.1 69)) 70 (σ.2.1 70)) 57 (σ.2.2.2 57)) 58 (σ.2.2.2 58)) 59 (σ.2.2.1 59)) 60 (σ.2.2.1 60)) 61 (σ.2.2.1 61)) 62 (σ.2.2.1 62))) H := hP
    have hD : va_D A (mwd y ad zw (tI (tI (tI (tI (tJ (tJ (sJ (sJ (sI (sJ (sJ (sI (tI (tI (tI (tI (sI σ 73 (σ.1 73)) 72 (σ.2.2.1 72)) 63 (σ.2.2.1 63)) 67 f_97) 66 (σ.2.2.1 66)) 44 (σ.1 44)) 42 (σ.2.1 42)) 43 (σ.2.1 43)) 68 (σ.1 68)) 69 (σ.2.1 69)) 70 (σ.2.1 70)) 57 (σ.2.2.2 57)) 58 (σ.2.2.2 58)) 59 (σ.2.2.1 59)) 60 (σ.2.2.1 60)) 61 (σ.2.2.1 61)) 62 (σ.2.2.1 62))) := hD
    exact x_zretW (v := 0) (u := ((σ.1 73), (σ.2.2.1 72), (σ.2.2.1 63), f_97, (σ.2.2.1 66), (σ.1 44), (σ.2.1 42), (σ.2.1 43), (σ.1 68), (σ.2.1 69), (σ.2.1 70), (σ.2.2.2 57), (σ.2.2.2 58), (σ.2.2.1 59), (σ.2.2.1 60), (σ.2.2.1 61), (σ.2.2.1 62))) hx hb hr hQ rfl (by (try dsimp only); exact ⟨⟨Or.inl (by rw [ef_97]; show (upd _ 1 _ 1).toInt ≠ 0; rw [x_upd_same]; decide), hop, by omega, by omega, rfl⟩, hB57, hB58, hB62, hB63⟩) hP hD hK hS dX12_works_20 hlocks

def v_q_works1_13 : List Cond := .code yX12_works cX12_works 15 (some .boolean) :: ([.fieldLink RX12 142 "SlopeRunnerModel" "steps" "[I", .fieldLink RX12 160 "SlopeRunnerModel" "pile" "[I", .fieldLink RX12 421 "SlopeRunnerModel" "piled" "I", .fieldLink RX12 124 "SlopeRunnerModel" "valueAbove" "[J", .fieldLink RX12 127 "SlopeRunnerModel" "valueBelow" "[J", .fieldLink RX12 384 "SlopeRunnerModel" "isStuck" "Z", .fieldLink RX12 154 "SlopeRunnerModel" "state" "[I"] ++ ((wsV RX12 437 RX12 yX12_nears v_q_nears1) ++ wsX120))
theorem g_q_works1_13_0 : GoodIn v_q_works1_13 (wsV RX12 437 RX12 yX12_nears v_q_nears1) := goodIn_sub (fun w h => List.mem_cons_of_mem _ (List.mem_append_right _ (List.mem_append_left _ h))) (by decide +kernel)
set_option maxHeartbeats 4000000 in
set_option maxRecDepth 100000 in
theorem q_works1_13 (l : Launch) (D : va_G) (y : Nat → ClassId) (sz : Nat) (ad : Nat → Nat) (zw : Nat → Nat → Int32) (σ : OS) (T : List Bool) (hp : (σ.1 73).toInt = (T.length : Int) + 2) (hT : T.length ≤ 700) (hPT : PT (true :: true :: T) (σ.2.2.1 72) (σ.2.2.1 62 1).toInt) (hop : opc (σ.2.2.1 59) (σ.2.2.1 60) (σ.2.2.1 61)) (hl0 : 0 ≤ (σ.2.2.1 62 1).toInt) (hl1 : (σ.2.2.1 62 1).toInt < 1760) (hB57 : bJ (σ.2.2.2 57) (-1000000000) 1000000000) (hB58 : bJ (σ.2.2.2 58) 0 1000000000) (hB62 : bI (σ.2.2.1 62) 0 1760) (hB63 : bI (σ.2.2.1 63) 0 1000) : Met l yX12_works v_q_works1_13 ({ frames := 1, cells := 0, slots := 0, locals := 31 } : Room) (va_Pc [.ref (ad 1), .int 1, .int 13] (xPre D (xT y) (mwd y ad zw σ) sz)) (va_Qi (fun (r : Int32) (u : Int32 × (Nat → Int32) × (Nat → Int32) × (Nat → Int32) × (Nat → Int32) × Int32 × Int64 × Int64 × Int32 × Int64 × Int64 × (Nat → Int64) × (Nat → Int64) × (Nat → Int32) × (Nat → Int32) × (Nat → Int32) × (Nat → Int32)) => (((u.2.2.2.1 1).toInt ≠ 0 ∨ (u.1.toInt = (T.length : Int) + 1 ∧ PT (false :: T) u.2.1 (u.2.2.2.2.2.2.2.2.2.2.2.2.2.2.2.2 1).toInt ∧ (u.2.2.1 1).toInt = (σ.2.2.1 63 1).toInt + 1 ∧ u.2.2.2.1 = σ.2.2.1 67)) ∧ opc u.2.2.2.2.2.2.2.2.2.2.2.2.2.1 u.2.2.2.2.2.2.2.2.2.2.2.2.2.2.1 u.2.2.2.2.2.2.2.2.2.2.2.2.2.2.2.1 ∧ (σ.2.2.1 62 1).toInt ≤ (u.2.2.2.2.2.2.2.2.2.2.2.2.2.2.2.2 1).toInt ∧ (u.2.2.2.2.2.2.2.2.2.2.2.2.2.2.2.2 1).toInt - (σ.2.2.1 62 1).toInt ≤ (u.2.2.1 1).toInt - (σ.2.2.1 63 1).toInt ∧ u.2.2.2.2.2.2.2.2.2.2.2.2.2.2.2.2 0 = σ.2.2.1 62 0) ∧ bJ u.2.2.2.2.2.2.2.2.2.2.2.1 (-1000000000) 1000000000 ∧ bJ u.2.2.2.2.2.2.2.2.2.2.2.2.1 0 1000000000 ∧ bI u.2.2.2.2.2.2.2.2.2.2.2.2.2.2.2.2 0 1760 ∧ bI u.2.2.1 0 1000) (fun (u : Int32 × (Nat → Int32) × (Nat → Int32) × (Nat → Int32) × (Nat → Int32) × Int32 × Int64 × Int64 × Int32 × Int64 × Int64 × (Nat → Int64) × (Nat → Int64) × (Nat → Int32) × (Nat → Int32) × (Nat → Int32) × (Nat → Int32)) => xB D (xT y) (va_A (mwd y ad zw σ) sz) (mwd y ad zw (tI (tI (tI (tI (tJ (tJ (sJ (sJ (sI (sJ (sJ (sI (tI (tI (tI (tI (sI σ 73 u.1) 72 u.2.1) 63 u.2.2.1) 67 u.2.2.2.1) 66 u.2.2.2.2.1) 44 u.2.2.2.2.2.1) 42 u.2.2.2.2.2.2.1) 43 u.2.2.2.2.2.2.2.1) 68 u.2.2.2.2.2.2.2.2.1) 69 u.2.2.2.2.2.2.2.2.2.1) 70 u.2.2.2.2.2.2.2.2.2.2.1) 57 u.2.2.2.2.2.2.2.2.2.2.2.1) 58 u.2.2.2.2.2.2.2.2.2.2.2.2.1) 59 u.2.2.2.2.2.2.2.2.2.2.2.2.2.1) 60 u.2.2.2.2.2.2.2.2.2.2.2.2.2.2.1) 61 u.2.2.2.2.2.2.2.2.2.2.2.2.2.2.2.1) 62 u.2.2.2.2.2.2.2.2.2.2.2.2.2.2.2.2))) (va_A (mwd y ad zw σ) sz)) 0 0 (va_A (mwd y ad zw σ) sz) := by
  refine x_meti (cc := cX12_works) (maxL := 15) (by decide) rfl (Nat.le_of_ble_eq_true rfl) ?_
  intro p e s m below meth c A H locs Q hx hb hml hown hts hr hlocks hmn hA hP hK hD hS ls hl hQ
  have hl : lv_has ls 15 [(0, .ref (ad 1)), (1, .int 1), (2, .int 13)] := hl
  have fl142 := hts (.fieldLink RX12 142 "SlopeRunnerModel" "steps" "[I") (List.mem_of_getElem? (i := 1) rfl)
  have inX12 : ∀ w ∈ wsX120, w ∈ v_q_works1_13 := (fun w h => List.mem_cons_of_mem _ (List.mem_append_right _ (List.mem_append_right _ h)))
  have kk_1000 : (1000 : Int32).toInt = 1000 := rfl
  have fl160 := hts (.fieldLink RX12 160 "SlopeRunnerModel" "pile" "[I") (List.mem_of_getElem? (i := 2) rfl)
  have fl421 := hts (.fieldLink RX12 421 "SlopeRunnerModel" "piled" "I") (List.mem_of_getElem? (i := 3) rfl)
  have kk_1 : (1 : Int32).toInt = 1 := rfl
  have kk_2 : (2 : Int32).toInt = 2 := rfl
  have fl124 := hts (.fieldLink RX12 124 "SlopeRunnerModel" "valueAbove" "[J") (List.mem_of_getElem? (i := 4) rfl)
  have kk_1760 : (1760 : Int32).toInt = 1760 := rfl
  have fl127 := hts (.fieldLink RX12 127 "SlopeRunnerModel" "valueBelow" "[J") (List.mem_of_getElem? (i := 5) rfl)
  have fl384 := hts (.fieldLink RX12 384 "SlopeRunnerModel" "isStuck" "Z") (List.mem_of_getElem? (i := 6) rfl)
  have fl154 := hts (.fieldLink RX12 154 "SlopeRunnerModel" "state" "[I") (List.mem_of_getElem? (i := 7) rfl)
  have kk_0 : (0 : Int32).toInt = 0 := rfl
  refine lv_aload_n hx hb dX12_works_0 rfl (lv_at hl 0 rfl) ?_
  refine va_get (D := D) (ci := 11) (v := .ref (ad 63)) (C := RX12) (T := TX12) (N := 85) hx hb hts inX12 hown hK hP 0 mwd_o0 rfl 63 (by decide) fl142 (fun _ h9 => h9) rfl dX12_works_1 ?_
  refine lv_iload_n hx hb dX12_works_4 rfl (lv_at hl 1 rfl) ?_
  refine va_iald hx hb hK hP 43 2 mwd_a43 rfl (x_in (by decide) (by decide)) dX12_works_5 ?_
  refine lv_topi (fun i_1 ei_1 => ?_)
  have ei_1 : i_1 = (σ.2.2.1 63) (Int32.toNatClampNeg 1) := ei_1
  have gi_1 : i_1.toInt = (σ.2.2.1 63 1).toInt := by rw [ei_1]; rfl
  have bi_1 := b_at hB63 ei_1
  refine lv_sipush (v := 1000) hx hb dX12_works_6 (by decide) ?_
  refine lv_icmp_ne (tgt := 21) hx hb dX12_works_9 (by decide) (fun c_2 => ?_) (fun c_2 => ?_)
  · have kc_2 : i_1.toInt ≠ 1000 := by have h9 := c_2; simp only [ge_iff_le, gt_iff_lt, x_lt, x_le, x_eq, ne_eq, Int32.not_lt, Int32.not_le] at h9; simp only [Int32.reduceToInt] at h9; omega
    refine lv_iload_n hx hb dX12_works_21 rfl (lv_at hl 2 rfl) ?_
    refine lv_bipush (v := 7) hx hb dX12_works_22 (by decide) ?_
    refine lv_icmp_ne (tgt := 41) hx hb dX12_works_24 (by decide) (fun c_3 => ?_) (fun c_3 => ?_)
    · refine lv_aload_n hx hb dX12_works_41 rfl (lv_at hl 0 rfl) ?_
      refine va_get (D := D) (ci := 11) (v := .ref (ad 72)) (C := RX12) (T := TX12) (N := 85) hx hb hts inX12 hown hK hP 0 mwd_o0 rfl 72 (by decide) fl160 (fun _ h9 => h9) rfl dX12_works_42 ?_
      refine lv_aload_n hx hb dX12_works_45 rfl (lv_at hl 0 rfl) ?_
      refine va_get (D := D) (ci := 11) (v := .int (σ.1 73)) (C := RX12) (T := TX12) (N := 85) hx hb hts inX12 hown hK hP 0 mwd_o0 rfl 73 (by decide) fl421 (fun _ h9 => h9) rfl dX12_works_46 ?_
      refine lv_iconst (v := 1) hx hb dX12_works_49 (by decide) ?_
      refine lv_isub hx hb dX12_works_50 ?_
      refine lv_topi (fun i_4 ei_4 => ?_)
      have vi_4 : i_4.toInt = (σ.1 73).toInt - 1 := by have h9 := x_sub ei_4 (by omega) (by omega); omega
      refine va_iald hx hb hK hP 49 2 mwd_a49 rfl (x_in (by omega) (by omega)) dX12_works_51 ?_
      refine lv_topi (fun i_5 ei_5 => ?_)
      have ei_5 : i_5 = (σ.2.2.1 72) (Int32.toNatClampNeg i_4) := ei_5
      have gi_5 := PT_N hPT ei_5 (x_cl (by simp only [List.length_cons]; omega))
      refine lv_istore_n (lv' := [(3, .int i_5), (0, .ref (ad 1)), (1, .int 1), (2, .int 13)]) hx hb dX12_works_52 rfl hl (by decide) rfl (fun ls hl => ?_)
      refine lv_iload_n hx hb dX12_works_53 rfl (lv_at hl 3 rfl) ?_
      refine lv_bipush (v := 7) hx hb dX12_works_54 (by decide) ?_
      refine lv_icmp_ne (tgt := 63) hx hb dX12_works_56 (by decide) (fun c_6 => ?_) (fun c_6 => ?_)
      · refine lv_aload_n hx hb dX12_works_63 rfl (lv_at hl 1 rfl) ?_
        refine va_get (D := D) (ci := 11) (v := .ref (ad 72)) (C := RX12) (T := TX12) (N := 85) hx hb hts inX12 hown hK hP 0 mwd_o0 rfl 72 (by decide) fl160 (fun _ h9 => h9) rfl dX12_works_64 ?_
        refine lv_aload_n hx hb dX12_works_67 rfl (lv_at hl 1 rfl) ?_
        refine va_get (D := D) (ci := 11) (v := .int (σ.1 73)) (C := RX12) (T := TX12) (N := 85) hx hb hts inX12 hown hK hP 0 mwd_o0 rfl 73 (by decide) fl421 (fun _ h9 => h9) rfl dX12_works_68 ?_
        refine lv_iconst (v := 2) hx hb dX12_works_71 (by decide) ?_
        refine lv_isub hx hb dX12_works_72 ?_
        refine lv_topi (fun i_7 ei_7 => ?_)
        have vi_7 : i_7.toInt = (σ.1 73).toInt - 2 := by have h9 := x_sub ei_7 (by omega) (by omega); omega
        refine va_iald hx hb hK hP 49 2 mwd_a49 rfl (x_in (by omega) (by omega)) dX12_works_73 ?_
        refine lv_topi (fun i_8 ei_8 => ?_)
        have ei_8 : i_8 = (σ.2.2.1 72) (Int32.toNatClampNeg i_7) := ei_8
        have gi_8 := PT_N hPT.2 ei_8 (x_cl (by omega))
        refine lv_istore (lv' := [(4, .int i_8), (3, .int i_5), (0, .ref (ad 1)), (1, .int 1), (2, .int 13)]) hx hb dX12_works_74 hl (by decide) rfl (fun ls hl => ?_)
        refine lv_aload_n hx hb dX12_works_76 rfl (lv_at hl 2 rfl) ?_
        refine va_get (D := D) (ci := 11) (v := .ref (ad 57)) (C := RX12) (T := TX12) (N := 85) hx hb hts inX12 hown hK hP 0 mwd_o0 rfl 57 (by decide) fl124 (fun _ h9 => h9) rfl dX12_works_77 ?_
        refine lv_sipush (v := 1760) hx hb dX12_works_80 (by decide) ?_
        refine lv_iload_n hx hb dX12_works_83 rfl (lv_at hl 3 rfl) ?_
        refine lv_imul hx hb dX12_works_84 ?_
        refine lv_topi (fun i_9 ei_9 => ?_)
        obtain rfl : i_9 = 1760 := ei_9.trans (by decide)
        refine lv_iload hx hb dX12_works_85 (lv_at hl 0 rfl) ?_
        refine lv_iadd hx hb dX12_works_87 ?_
        refine lv_topi (fun i_10 ei_10 => ?_)
        have vi_10 : i_10.toInt = 1760 + i_8.toInt := by have h9 := x_add ei_10 (by omega) (by omega); omega
        refine va_lald hx hb hK hP 37 3 mwd_a37 rfl (x_in (by omega) (by omega)) dX12_works_88 ?_
        refine lv_topl (fun j_11 ej_11 => ?_)
        have ej_11 : j_11 = (σ.2.2.2 57) (Int32.toNatClampNeg i_10) := ej_11
        have bj_11 := b_atJ hB57 ej_11
        refine lv_lstore (lv' := [(5, .long j_11), (4, .int i_8), (3, .int i_5), (0, .ref (ad 1)), (1, .int 1), (2, .int 13)]) hx hb dX12_works_89 hl (by decide) rfl (fun ls hl => ?_)
        refine lv_aload_n hx hb dX12_works_91 rfl (lv_at hl 3 rfl) ?_
        refine va_get (D := D) (ci := 11) (v := .ref (ad 58)) (C := RX12) (T := TX12) (N := 85) hx hb hts inX12 hown hK hP 0 mwd_o0 rfl 58 (by decide) fl127 (fun _ h9 => h9) rfl dX12_works_92 ?_
        refine lv_sipush (v := 1760) hx hb dX12_works_95 (by decide) ?_
        refine lv_iload_n hx hb dX12_works_98 rfl (lv_at hl 4 rfl) ?_
        refine lv_imul hx hb dX12_works_99 ?_
        refine lv_topi (fun i_12 ei_12 => ?_)
        obtain rfl : i_12 = 1760 := ei_12.trans (by decide)
        refine lv_iload hx hb dX12_works_100 (lv_at hl 1 rfl) ?_
        refine lv_iadd hx hb dX12_works_102 ?_
        refine lv_topi (fun i_13 ei_13 => ?_)
        have vi_13 : i_13.toInt = 1760 + i_8.toInt := by have h9 := x_add ei_13 (by omega) (by omega); omega
        refine va_lald hx hb hK hP 38 3 mwd_a38 rfl (x_in (by omega) (by omega)) dX12_works_103 ?_
        refine lv_topl (fun j_14 ej_14 => ?_)
        have ej_14 : j_14 = (σ.2.2.2 58) (Int32.toNatClampNeg i_13) := ej_14
        have bj_14 := b_atJ hB58 ej_14
        refine lv_lstore (lv' := [(7, .long j_14), (5, .long j_11), (4, .int i_8), (3, .int i_5), (0, .ref (ad 1)), (1, .int 1), (2, .int 13)]) hx hb dX12_works_104 hl (by decide) rfl (fun ls hl => ?_)
        refine lv_aload_n hx hb dX12_works_106 rfl (lv_at hl 4 rfl) ?_
        refine va_get (D := D) (ci := 11) (v := .ref (ad 57)) (C := RX12) (T := TX12) (N := 85) hx hb hts inX12 hown hK hP 0 mwd_o0 rfl 57 (by decide) fl124 (fun _ h9 => h9) rfl dX12_works_107 ?_
        refine lv_sipush (v := 1760) hx hb dX12_works_110 (by decide) ?_
        refine lv_iload_n hx hb dX12_works_113 rfl (lv_at hl 5 rfl) ?_
        refine lv_imul hx hb dX12_works_114 ?_
        refine lv_topi (fun i_15 ei_15 => ?_)
        obtain rfl : i_15 = 1760 := ei_15.trans (by decide)
        refine lv_iload_n hx hb dX12_works_115 rfl (lv_at hl 3 rfl) ?_
        refine lv_iadd hx hb dX12_works_116 ?_
        refine lv_topi (fun i_16 ei_16 => ?_)
        have vi_16 : i_16.toInt = 1760 + i_5.toInt := by have h9 := x_add ei_16 (by omega) (by omega); omega
        refine va_lald hx hb hK hP 37 3 mwd_a37 rfl (x_in (by omega) (by omega)) dX12_works_117 ?_
        refine lv_topl (fun j_17 ej_17 => ?_)
        have ej_17 : j_17 = (σ.2.2.2 57) (Int32.toNatClampNeg i_16) := ej_17
        have bj_17 := b_atJ hB57 ej_17
        refine lv_lstore (lv' := [(9, .long j_17), (7, .long j_14), (5, .long j_11), (4, .int i_8), (3, .int i_5), (0, .ref (ad 1)), (1, .int 1), (2, .int 13)]) hx hb dX12_works_118 hl (by decide) rfl (fun ls hl => ?_)
        refine lv_aload_n hx hb dX12_works_120 rfl (lv_at hl 5 rfl) ?_
        refine va_get (D := D) (ci := 11) (v := .ref (ad 58)) (C := RX12) (T := TX12) (N := 85) hx hb hts inX12 hown hK hP 0 mwd_o0 rfl 58 (by decide) fl127 (fun _ h9 => h9) rfl dX12_works_121 ?_
        refine lv_sipush (v := 1760) hx hb dX12_works_124 (by decide) ?_
        refine lv_iload_n hx hb dX12_works_127 rfl (lv_at hl 6 rfl) ?_
        refine lv_imul hx hb dX12_works_128 ?_
        refine lv_topi (fun i_18 ei_18 => ?_)
        obtain rfl : i_18 = 1760 := ei_18.trans (by decide)
        refine lv_iload_n hx hb dX12_works_129 rfl (lv_at hl 4 rfl) ?_
        refine lv_iadd hx hb dX12_works_130 ?_
        refine lv_topi (fun i_19 ei_19 => ?_)
        have vi_19 : i_19.toInt = 1760 + i_5.toInt := by have h9 := x_add ei_19 (by omega) (by omega); omega
        refine va_lald hx hb hK hP 38 3 mwd_a38 rfl (x_in (by omega) (by omega)) dX12_works_131 ?_
        refine lv_topl (fun j_20 ej_20 => ?_)
        have ej_20 : j_20 = (σ.2.2.2 58) (Int32.toNatClampNeg i_19) := ej_20
        have bj_20 := b_atJ hB58 ej_20
        refine lv_lstore (lv' := [(11, .long j_20), (9, .long j_17), (7, .long j_14), (5, .long j_11), (4, .int i_8), (3, .int i_5), (0, .ref (ad 1)), (1, .int 1), (2, .int 13)]) hx hb dX12_works_132 hl (by decide) rfl (fun ls hl => ?_)
        refine lv_lload hx hb dX12_works_134 (lv_at hl 3 rfl) ?_
        refine lv_lload hx hb dX12_works_136 (lv_at hl 0 rfl) ?_
        refine lv_lmul hx hb dX12_works_138 ?_
        refine lv_topl (fun j_21 ej_21 => ?_)
        have vj_21 := x_mulB ej_21 (by omega) (by omega) (by omega) (by omega)
        refine lv_lload hx hb dX12_works_139 (lv_at hl 1 rfl) ?_
        refine lv_lload hx hb dX12_works_141 (lv_at hl 2 rfl) ?_
        refine lv_lmul hx hb dX12_works_143 ?_
        refine lv_topl (fun j_22 ej_22 => ?_)
        have vj_22 := x_mulB ej_22 (by omega) (by omega) (by omega) (by omega)
        refine W.lcmp hx hb dX12_works_144 ?_
        refine lv_if_ge (tgt := 152) hx hb dX12_works_145 (by decide) (fun c_23 => ?_) (fun c_23 => ?_)
        · have kc_23 : j_21.toInt ≥ j_22.toInt := by have h9 := x_tri j_21 j_22; (try simp only [Int64.reduceToInt] at h9); rcases h9 with ⟨g1, g2⟩ | ⟨g1, g2⟩ | ⟨g1, g2⟩ <;> first | omega | (exfalso; rw [g1] at c_23; revert c_23; decide)
          refine lv_iconst (v := 0) hx hb dX12_works_152 (by decide) ?_
          refine lv_istore (lv' := [(13, .int 0), (11, .long j_20), (9, .long j_17), (7, .long j_14), (5, .long j_11), (4, .int i_8), (3, .int i_5), (0, .ref (ad 1)), (1, .int 1), (2, .int 13)]) hx hb dX12_works_153 hl (by decide) rfl (fun ls hl => ?_)
          refine lv_aload_n hx hb dX12_works_155 rfl (lv_at hl 7 rfl) ?_
          refine lv_iconst (v := 0) hx hb dX12_works_156 (by decide) ?_
          refine va_put (D := D) (ci := 11) (v := .int 0) (ty := .boolean) (C := RX12) (T := TX12) (N := 85) hx hb hts inX12 tyX12 tyX12_ok nmX12 hown hK hP hD hS 0 mwd_o0 rfl 44 (by decide) fl384 (fun _ h9 => h9) rfl (by decide +kernel) rfl rfl (Nat.le_of_ble_eq_true rfl) dX12_works_157 (fun H locs hP hD hS => ?_)
          have hP : va_P D vwCl (mwd y ad zw (sI σ 44 0)) H := x_trP hP mwd_p0_44
          have hD : va_D A (mwd y ad zw (sI σ 44 0)) := x_trD hD mwd_p0_44
          refine lv_iload_n hx hb dX12_works_160 rfl (lv_at hl 9 rfl) ?_
          refine lv_tableOut (tgt := 252) hx hb dX12_works_161 (by decide) (by decide) ?_
          refine lv_aload_n hx hb dX12_works_252 rfl (lv_at hl 7 rfl) ?_
          refine va_get (D := D) (ci := 11) (v := .int 0) (C := RX12) (T := TX12) (N := 85) hx hb hts inX12 hown hK hP 0 mwd_o0 rfl 44 (by decide) fl384 (fun _ h9 => h9) rfl dX12_works_253 ?_
          refine lv_if_eq (tgt := 268) hx hb dX12_works_256 (by decide) (fun c_25 => ?_) (fun c_25 => ?_)
          · refine lv_aload_n hx hb dX12_works_268 rfl (lv_at hl 7 rfl) ?_
            refine va_get (D := D) (ci := 11) (v := .ref (ad 63)) (C := RX12) (T := TX12) (N := 85) hx hb hts inX12 hown hK hP 0 mwd_o0 rfl 63 (by decide) fl142 (fun _ h9 => h9) rfl dX12_works_269 ?_
            refine lv_iload_n hx hb dX12_works_272 rfl (lv_at hl 8 rfl) ?_
            refine lv_dup2_11 hx hb dX12_works_273 rfl rfl ?_
            refine va_iald hx hb hK hP 43 2 mwd_a43 rfl (x_in (by decide) (by decide)) dX12_works_274 ?_
            refine lv_topi (fun i_26 ei_26 => ?_)
            have ei_26 : i_26 = (σ.2.2.1 63) (Int32.toNatClampNeg 1) := ei_26
            have gi_26 : i_26.toInt = (σ.2.2.1 63 1).toInt := by rw [ei_26]; rfl
            have bi_26 := b_at hB63 ei_26
            refine lv_iconst (v := 1) hx hb dX12_works_275 (by decide) ?_
            refine lv_iadd hx hb dX12_works_276 ?_
            refine lv_topi (fun i_27 ei_27 => ?_)
            have vi_27 : i_27.toInt = i_26.toInt + 1 := by have h9 := x_add ei_27 (by omega) (by omega); omega
            refine va_iast hx hb hK hP hD hS 43 2 mwd_a43 rfl (x_in (by decide) (by decide)) dX12_works_277 (fun H locs hP hD hS => ?_)
            obtain ⟨f_28, ef_28⟩ : ∃ z9 : Nat → Int32, z9 = (upd (σ.2.2.1 63) (Int32.toNatClampNeg 1) i_27) := ⟨_, rfl⟩
            have hP : va_P D vwCl (mwd y ad zw (tI (sI σ 44 0) 63 f_28)) H := by rw [ef_28]; exact x_trP hP mwd_s43
            have hD : va_D A (mwd y ad zw (tI (sI σ 44 0) 63 f_28)) := by rw [ef_28]; exact x_trD hD mwd_s43
            have hvf_28 : bI f_28 0 1000 := by rw [ef_28]; exact b_upd hB63 (by omega) (by omega)
            have sf_28 : (f_28 1).toInt = i_27.toInt := by rw [ef_28]; exact congrArg Int32.toInt (x_upd_same _ 1 _)
            refine lv_aload_n hx hb dX12_works_278 rfl (lv_at hl 7 rfl) ?_
            refine lv_dup hx hb dX12_works_279 rfl ?_
            refine va_get (D := D) (ci := 11) (v := .int (σ.1 73)) (C := RX12) (T := TX12) (N := 85) hx hb hts inX12 hown hK hP 0 mwd_o0 rfl 73 (by decide) fl421 (fun _ h9 => h9) rfl dX12_works_280 ?_
            refine lv_iload_n hx hb dX12_works_283 rfl (lv_at hl 9 rfl) ?_
            refine lv_bipush (v := 7) hx hb dX12_works_284 (by decide) ?_
            refine lv_icmp_ne (tgt := 293) hx hb dX12_works_286 (by decide) (fun c_29 => ?_) (fun c_29 => ?_)
            · refine lv_iconst (v := 2) hx hb dX12_works_293 (by decide) ?_
              refine lv_isub hx hb dX12_works_294 ?_
              refine lv_topi (fun i_30 ei_30 => ?_)
              have vi_30 : i_30.toInt = (σ.1 73).toInt - 2 := by have h9 := x_sub ei_30 (by omega) (by omega); omega
              refine va_put (D := D) (ci := 11) (v := .int i_30) (ty := .int) (C := RX12) (T := TX12) (N := 85) hx hb hts inX12 tyX12 tyX12_ok nmX12 hown hK hP hD hS 0 mwd_o0 rfl 73 (by decide) fl421 (fun _ h9 => h9) rfl (by decide +kernel) rfl rfl (Nat.le_of_ble_eq_true rfl) dX12_works_295 (fun H locs hP hD hS => ?_)
              have hP : va_P D vwCl (mwd y ad zw (sI (tI (sI σ 44 0) 63 f_28) 73 i_30)) H := x_trP hP mwd_p0_73
              have hD : va_D A (mwd y ad zw (sI (tI (sI σ 44 0) 63 f_28) 73 i_30)) := x_trD hD mwd_p0_73
              refine lv_iload_n hx hb dX12_works_298 rfl (lv_at hl 9 rfl) ?_
              refine lv_iconst (v := 4) hx hb dX12_works_299 (by decide) ?_
              refine lv_icmp_gt (tgt := 340) hx hb dX12_works_300 (by decide) (fun c_31 => ?_) (fun c_31 => ?_)
              · refine lv_iload_n hx hb dX12_works_340 rfl (lv_at hl 9 rfl) ?_
                refine lv_bipush (v := 7) hx hb dX12_works_341 (by decide) ?_
                refine lv_icmp_ne (tgt := 394) hx hb dX12_works_343 (by decide) (fun c_32 => ?_) (fun c_32 => ?_)
                · refine lv_iload_n hx hb dX12_works_394 rfl (lv_at hl 9 rfl) ?_
                  refine lv_iconst (v := 5) hx hb dX12_works_395 (by decide) ?_
                  refine lv_icmp_eq (tgt := 405) hx hb dX12_works_396 (by decide) (fun c_33 => ?_) (fun c_33 => ?_)
                  · exact absurd c_33 (by decide)
                  · refine lv_iload_n hx hb dX12_works_399 rfl (lv_at hl 9 rfl) ?_
                    refine lv_bipush (v := 6) hx hb dX12_works_400 (by decide) ?_
                    refine lv_icmp_ne (tgt := 538) hx hb dX12_works_402 (by decide) (fun c_34 => ?_) (fun c_34 => ?_)
                    · refine lv_aload_n hx hb dX12_works_538 rfl (lv_at hl 7 rfl) ?_
                      refine lv_iload_n hx hb dX12_works_539 rfl (lv_at hl 8 rfl) ?_
                      refine lv_lload hx hb dX12_works_540 (lv_at hl 4 rfl) ?_
                      refine lv_lload hx hb dX12_works_542 (lv_at hl 3 rfl) ?_
                      refine lv_lload hx hb dX12_works_544 (lv_at hl 2 rfl) ?_
                      refine lv_lload hx hb dX12_works_546 (lv_at hl 1 rfl) ?_
                      refine x_callvW (va_runV (As := [.int 1, .long j_11, .long j_14, .long j_17, .long j_20]) (rest := []) ⟨hx, hb, hml, hown, hts⟩ (q_nears1 l D y H.size ad zw (sI (tI (sI σ 44 0) 63 f_28) 73 i_30) j_11 j_14 j_17 j_20 (by first | omega | decide) (by first | omega | decide) (by first | omega | decide) (by first | omega | decide) (by first | omega | decide) (by first | omega | decide) (by first | omega | decide) (by first | omega | decide)) (cwV 5 hts g_q_works1_13_0 rfl rfl rfl (by decide +kernel) ⟨Nat.le_of_ble_eq_true rfl, Nat.le_of_ble_eq_true rfl⟩) (x_preV (q := (RX12, TX12, 85)) hK hP hD (ci := 11) (q0 := 0) rfl mwd_o0) rfl rfl hl.1 rfl (lv_room (Nat.le_of_ble_eq_true rfl)) dX12_works_548 ⟨Nat.le_of_ble_eq_true rfl, Nat.le_of_ble_eq_true rfl⟩) hP hD hS hA (fun u H locs hw hP hD hS => ?_)
                      obtain ⟨f_35, n_36, j_37, j_38, n_39, j_40, j_41⟩ := u
                      try dsimp only at hw
                      have hP : va_P D vwCl (mwd y ad zw (sJ (sJ (sI (sJ (sJ (sI (tI (sI (tI (sI σ 44 0) 63 f_28) 73 i_30) 66 f_35) 44 n_36) 42 j_37) 43 j_38) 68 n_39) 69 j_40) 70 j_41)) H := hP
                      have hD : va_D A (mwd y ad zw (sJ (sJ (sI (sJ (sJ (sI (tI (sI (tI (sI σ 44 0) 63 f_28) 73 i_30) 66 f_35) 44 n_36) 42 j_37) 43 j_38) 68 n_39) 69 j_40) 70 j_41)) := hD
                      have hw : True := hw
                      refine lv_lload hx hb dX12_works_551 (lv_at hl 4 rfl) ?_
                      refine lv_lload hx hb dX12_works_553 (lv_at hl 2 rfl) ?_
                      refine W.lcmp hx hb dX12_works_555 ?_
                      refine lv_if_ne (tgt := 571) hx hb dX12_works_556 (by decide) (fun c_42 => ?_) (fun c_42 => ?_)
                      · have kc_42 : j_11.toInt ≠ j_17.toInt := by have h9 := x_tri j_11 j_17; (try simp only [Int64.reduceToInt] at h9); rcases h9 with ⟨g1, g2⟩ | ⟨g1, g2⟩ | ⟨g1, g2⟩ <;> first | omega | (exfalso; rw [g1] at c_42; revert c_42; decide)
                        refine lv_iconst (v := 0) hx hb dX12_works_571 (by decide) ?_
                        refine lv_istore (lv' := [(14, .int 0), (13, .int 0), (11, .long j_20), (9, .long j_17), (7, .long j_14), (5, .long j_11), (4, .int i_8), (3, .int i_5), (0, .ref (ad 1)), (1, .int 1), (2, .int 13)]) hx hb dX12_works_572 hl (by decide) rfl (fun ls hl => ?_)
                        refine lv_aload_n hx hb dX12_works_574 rfl (lv_at hl 8 rfl) ?_
                        refine va_get (D := D) (ci := 11) (v := .ref (ad 72)) (C := RX12) (T := TX12) (N := 85) hx hb hts inX12 hown hK hP 0 mwd_o0 rfl 72 (by decide) fl160 (fun _ h9 => h9) rfl dX12_works_575 ?_
                        refine lv_aload_n hx hb dX12_works_578 rfl (lv_at hl 8 rfl) ?_
                        refine va_get (D := D) (ci := 11) (v := .int i_30) (C := RX12) (T := TX12) (N := 85) hx hb hts inX12 hown hK hP 0 mwd_o0 rfl 73 (by decide) fl421 (fun _ h9 => h9) rfl dX12_works_579 ?_
                        refine lv_iload_n hx hb dX12_works_582 rfl (lv_at hl 10 rfl) ?_
                        refine lv_bipush (v := 11) hx hb dX12_works_583 (by decide) ?_
                        refine lv_icmp_ne (tgt := 596) hx hb dX12_works_585 (by decide) (fun c_43 => ?_) (fun c_43 => ?_)
                        · refine lv_iload_n hx hb dX12_works_596 rfl (lv_at hl 10 rfl) ?_
                          refine lv_bipush (v := 12) hx hb dX12_works_597 (by decide) ?_
                          refine lv_icmp_ne (tgt := 615) hx hb dX12_works_599 (by decide) (fun c_44 => ?_) (fun c_44 => ?_)
                          · refine lv_iload hx hb dX12_works_615 (lv_at hl 0 rfl) ?_
                            refine lv_if_eq (tgt := 624) hx hb dX12_works_617 (by decide) (fun c_45 => ?_) (fun c_45 => ?_)
                            · refine lv_iconst (v := 0) hx hb dX12_works_624 (by decide) ?_
                              refine va_iast hx hb hK hP hD hS 49 2 mwd_a49 rfl (x_in (by omega) (by omega)) dX12_works_625 (fun H locs hP hD hS => ?_)
                              obtain ⟨f_46, ef_46⟩ : ∃ z9 : Nat → Int32, z9 = (upd (σ.2.2.1 72) (Int32.toNatClampNeg i_30) 0) := ⟨_, rfl⟩
                              have hP : va_P D vwCl (mwd y ad zw (tI (sJ (sJ (sI (sJ (sJ (sI (tI (sI (tI (sI σ 44 0) 63 f_28) 73 i_30) 66 f_35) 44 n_36) 42 j_37) 43 j_38) 68 n_39) 69 j_40) 70 j_41) 72 f_46)) H := by rw [ef_46]; exact x_trP hP mwd_s49
                              have hD : va_D A (mwd y ad zw (tI (sJ (sJ (sI (sJ (sJ (sI (tI (sI (tI (sI σ 44 0) 63 f_28) 73 i_30) 66 f_35) 44 n_36) 42 j_37) 43 j_38) 68 n_39) 69 j_40) 70 j_41) 72 f_46)) := by rw [ef_46]; exact x_trD hD mwd_s49
                              have pf_46 : PT (false :: T) f_46 ((σ.2.2.1 62) 1).toInt := by rw [ef_46]; exact PT_pushF (PT_mono (by omega) hPT.2.2) (x_cl (by omega)) (by decide)
                              refine lv_aload_n hx hb dX12_works_626 rfl (lv_at hl 8 rfl) ?_
                              refine lv_dup hx hb dX12_works_627 rfl ?_
                              refine va_get (D := D) (ci := 11) (v := .int i_30) (C := RX12) (T := TX12) (N := 85) hx hb hts inX12 hown hK hP 0 mwd_o0 rfl 73 (by decide) fl421 (fun _ h9 => h9) rfl dX12_works_628 ?_
                              refine lv_iconst (v := 1) hx hb dX12_works_631 (by decide) ?_
                              refine lv_iadd hx hb dX12_works_632 ?_
                              refine lv_topi (fun i_47 ei_47 => ?_)
                              have vi_47 : i_47.toInt = i_30.toInt + 1 := by have h9 := x_add ei_47 (by omega) (by omega); omega
                              refine va_put (D := D) (ci := 11) (v := .int i_47) (ty := .int) (C := RX12) (T := TX12) (N := 85) hx hb hts inX12 tyX12 tyX12_ok nmX12 hown hK hP hD hS 0 mwd_o0 rfl 73 (by decide) fl421 (fun _ h9 => h9) rfl (by decide +kernel) rfl rfl (Nat.le_of_ble_eq_true rfl) dX12_works_633 (fun H locs hP hD hS => ?_)
                              have hP : va_P D vwCl (mwd y ad zw (sI (tI (sJ (sJ (sI (sJ (sJ (sI (tI (sI (tI (sI σ 44 0) 63 f_28) 73 i_30) 66 f_35) 44 n_36) 42 j_37) 43 j_38) 68 n_39) 69 j_40) 70 j_41) 72 f_46) 73 i_47)) H := x_trP hP mwd_p0_73
                              have hD : va_D A (mwd y ad zw (sI (tI (sJ (sJ (sI (sJ (sJ (sI (tI (sI (tI (sI σ 44 0) 63 f_28) 73 i_30) 66 f_35) 44 n_36) 42 j_37) 43 j_38) 68 n_39) 69 j_40) 70 j_41) 72 f_46) 73 i_47)) := x_trD hD mwd_p0_73
                              refine lv_iconst (v := 1) hx hb dX12_works_636 (by decide) ?_
                              have hP : va_P D vwCl (mwd y ad zw (tI (tI (tI (tI (tJ (tJ (sJ (sJ (sI (sJ (sJ (sI (tI (tI (tI (tI (sI σ 73 i_47) 72 f_46) 63 f_28) 67 (σ.2.2.1 67)) 66 f_35) 44 n_36) 42 j_37) 43 j_38) 68 n_39) 69 j_40) 70 j_41) 57 (σ.2.2.2 57)) 58 (σ.2.2.2 58)) 59 (σ.2.2.1 59)) 60 (σ.2.2.1 60)) 61 (σ.2.2.1 61)) 62 (σ.2.2.1 62))) H := hP
                              have hD : va_D A (mwd y ad zw (tI (tI (tI (tI (tJ (tJ (sJ (sJ (sI (sJ (sJ (sI (tI (tI (tI (tI (sI σ 73 i_47) 72 f_46) 63 f_28) 67 (σ.2.2.1 67)) 66 f_35) 44 n_36) 42 j_37) 43 j_38) 68 n_39) 69 j_40) 70 j_41) 57 (σ.2.2.2 57)) 58 (σ.2.2.2 58)) 59 (σ.2.2.1 59)) 60 (σ.2.2.1 60)) 61 (σ.2.2.1 61)) 62 (σ.2.2.1 62))) := hD
                              exact x_zretW (v := 1) (u := (i_47, f_46, f_28, (σ.2.2.1 67), f_35, n_36, j_37, j_38, n_39, j_40, j_41, (σ.2.2.2 57), (σ.2.2.2 58), (σ.2.2.1 59), (σ.2.2.1 60), (σ.2.2.1 61), (σ.2.2.1 62))) hx hb hr hQ rfl (by (try dsimp only); exact ⟨⟨Or.inr ⟨by omega, pf_46, by omega, rfl⟩, hop, by omega, by omega, rfl⟩, hB57, hB58, hB62, hvf_28⟩) hP hD hK hS dX12_works_637 hlocks
                            · exact absurd (by decide) c_45
                          · exact absurd c_44 (by decide)
                        · exact absurd c_43 (by decide)
                      · have kc_42 : j_11.toInt = j_17.toInt := by have h9 := x_tri j_11 j_17; (try simp only [Int64.reduceToInt] at h9); rcases h9 with ⟨g1, g2⟩ | ⟨g1, g2⟩ | ⟨g1, g2⟩ <;> first | omega | (exfalso; rw [g1] at c_42; revert c_42; decide)
                        refine lv_lload hx hb dX12_works_559 (lv_at hl 3 rfl) ?_
                        refine lv_lload hx hb dX12_works_561 (lv_at hl 1 rfl) ?_
                        refine W.lcmp hx hb dX12_works_563 ?_
                        refine lv_if_ne (tgt := 571) hx hb dX12_works_564 (by decide) (fun c_48 => ?_) (fun c_48 => ?_)
                        · have kc_48 : j_14.toInt ≠ j_20.toInt := by have h9 := x_tri j_14 j_20; (try simp only [Int64.reduceToInt] at h9); rcases h9 with ⟨g1, g2⟩ | ⟨g1, g2⟩ | ⟨g1, g2⟩ <;> first | omega | (exfalso; rw [g1] at c_48; revert c_48; decide)
                          refine lv_iconst (v := 0) hx hb dX12_works_571 (by decide) ?_
                          refine lv_istore (lv' := [(14, .int 0), (13, .int 0), (11, .long j_20), (9, .long j_17), (7, .long j_14), (5, .long j_11), (4, .int i_8), (3, .int i_5), (0, .ref (ad 1)), (1, .int 1), (2, .int 13)]) hx hb dX12_works_572 hl (by decide) rfl (fun ls hl => ?_)
                          refine lv_aload_n hx hb dX12_works_574 rfl (lv_at hl 8 rfl) ?_
                          refine va_get (D := D) (ci := 11) (v := .ref (ad 72)) (C := RX12) (T := TX12) (N := 85) hx hb hts inX12 hown hK hP 0 mwd_o0 rfl 72 (by decide) fl160 (fun _ h9 => h9) rfl dX12_works_575 ?_
                          refine lv_aload_n hx hb dX12_works_578 rfl (lv_at hl 8 rfl) ?_
                          refine va_get (D := D) (ci := 11) (v := .int i_30) (C := RX12) (T := TX12) (N := 85) hx hb hts inX12 hown hK hP 0 mwd_o0 rfl 73 (by decide) fl421 (fun _ h9 => h9) rfl dX12_works_579 ?_
                          refine lv_iload_n hx hb dX12_works_582 rfl (lv_at hl 10 rfl) ?_
                          refine lv_bipush (v := 11) hx hb dX12_works_583 (by decide) ?_
                          refine lv_icmp_ne (tgt := 596) hx hb dX12_works_585 (by decide) (fun c_49 => ?_) (fun c_49 => ?_)
                          · refine lv_iload_n hx hb dX12_works_596 rfl (lv_at hl 10 rfl) ?_
                            refine lv_bipush (v := 12) hx hb dX12_works_597 (by decide) ?_
                            refine lv_icmp_ne (tgt := 615) hx hb dX12_works_599 (by decide) (fun c_50 => ?_) (fun c_50 => ?_)
                            · refine lv_iload hx hb dX12_works_615 (lv_at hl 0 rfl) ?_
                              refine lv_if_eq (tgt := 624) hx hb dX12_works_617 (by decide) (fun c_51 => ?_) (fun c_51 => ?_)
                              · refine lv_iconst (v := 0) hx hb dX12_works_624 (by decide) ?_
                                refine va_iast hx hb hK hP hD hS 49 2 mwd_a49 rfl (x_in (by omega) (by omega)) dX12_works_625 (fun H locs hP hD hS => ?_)
                                obtain ⟨f_52, ef_52⟩ : ∃ z9 : Nat → Int32, z9 = (upd (σ.2.2.1 72) (Int32.toNatClampNeg i_30) 0) := ⟨_, rfl⟩
                                have hP : va_P D vwCl (mwd y ad zw (tI (sJ (sJ (sI (sJ (sJ (sI (tI (sI (tI (sI σ 44 0) 63 f_28) 73 i_30) 66 f_35) 44 n_36) 42 j_37) 43 j_38) 68 n_39) 69 j_40) 70 j_41) 72 f_52)) H := by rw [ef_52]; exact x_trP hP mwd_s49
                                have hD : va_D A (mwd y ad zw (tI (sJ (sJ (sI (sJ (sJ (sI (tI (sI (tI (sI σ 44 0) 63 f_28) 73 i_30) 66 f_35) 44 n_36) 42 j_37) 43 j_38) 68 n_39) 69 j_40) 70 j_41) 72 f_52)) := by rw [ef_52]; exact x_trD hD mwd_s49
                                have pf_52 : PT (false :: T) f_52 ((σ.2.2.1 62) 1).toInt := by rw [ef_52]; exact PT_pushF (PT_mono (by omega) hPT.2.2) (x_cl (by omega)) (by decide)
                                refine lv_aload_n hx hb dX12_works_626 rfl (lv_at hl 8 rfl) ?_
                                refine lv_dup hx hb dX12_works_627 rfl ?_
                                refine va_get (D := D) (ci := 11) (v := .int i_30) (C := RX12) (T := TX12) (N := 85) hx hb hts inX12 hown hK hP 0 mwd_o0 rfl 73 (by decide) fl421 (fun _ h9 => h9) rfl dX12_works_628 ?_
                                refine lv_iconst (v := 1) hx hb dX12_works_631 (by decide) ?_
                                refine lv_iadd hx hb dX12_works_632 ?_
                                refine lv_topi (fun i_53 ei_53 => ?_)
                                have vi_53 : i_53.toInt = i_30.toInt + 1 := by have h9 := x_add ei_53 (by omega) (by omega); omega
                                refine va_put (D := D) (ci := 11) (v := .int i_53) (ty := .int) (C := RX12) (T := TX12) (N := 85) hx hb hts inX12 tyX12 tyX12_ok nmX12 hown hK hP hD hS 0 mwd_o0 rfl 73 (by decide) fl421 (fun _ h9 => h9) rfl (by decide +kernel) rfl rfl (Nat.le_of_ble_eq_true rfl) dX12_works_633 (fun H locs hP hD hS => ?_)
                                have hP : va_P D vwCl (mwd y ad zw (sI (tI (sJ (sJ (sI (sJ (sJ (sI (tI (sI (tI (sI σ 44 0) 63 f_28) 73 i_30) 66 f_35) 44 n_36) 42 j_37) 43 j_38) 68 n_39) 69 j_40) 70 j_41) 72 f_52) 73 i_53)) H := x_trP hP mwd_p0_73
                                have hD : va_D A (mwd y ad zw (sI (tI (sJ (sJ (sI (sJ (sJ (sI (tI (sI (tI (sI σ 44 0) 63 f_28) 73 i_30) 66 f_35) 44 n_36) 42 j_37) 43 j_38) 68 n_39) 69 j_40) 70 j_41) 72 f_52) 73 i_53)) := x_trD hD mwd_p0_73
                                refine lv_iconst (v := 1) hx hb dX12_works_636 (by decide) ?_
                                have hP : va_P D vwCl (mwd y ad zw (tI (tI (tI (tI (tJ (tJ (sJ (sJ (sI (sJ (sJ (sI (tI (tI (tI (tI (sI σ 73 i_53) 72 f_52) 63 f_28) 67 (σ.2.2.1 67)) 66 f_35) 44 n_36) 42 j_37) 43 j_38) 68 n_39) 69 j_40) 70 j_41) 57 (σ.2.2.2 57)) 58 (σ.2.2.2 58)) 59 (σ.2.2.1 59)) 60 (σ.2.2.1 60)) 61 (σ.2.2.1 61)) 62 (σ.2.2.1 62))) H := hP
                                have hD : va_D A (mwd y ad zw (tI (tI (tI (tI (tJ (tJ (sJ (sJ (sI (sJ (sJ (sI (tI (tI (tI (tI (sI σ 73 i_53) 72 f_52) 63 f_28) 67 (σ.2.2.1 67)) 66 f_35) 44 n_36) 42 j_37) 43 j_38) 68 n_39) 69 j_40) 70 j_41) 57 (σ.2.2.2 57)) 58 (σ.2.2.2 58)) 59 (σ.2.2.1 59)) 60 (σ.2.2.1 60)) 61 (σ.2.2.1 61)) 62 (σ.2.2.1 62))) := hD
                                exact x_zretW (v := 1) (u := (i_53, f_52, f_28, (σ.2.2.1 67), f_35, n_36, j_37, j_38, n_39, j_40, j_41, (σ.2.2.2 57), (σ.2.2.2 58), (σ.2.2.1 59), (σ.2.2.1 60), (σ.2.2.1 61), (σ.2.2.1 62))) hx hb hr hQ rfl (by (try dsimp only); exact ⟨⟨Or.inr ⟨by omega, pf_52, by omega, rfl⟩, hop, by omega, by omega, rfl⟩, hB57, hB58, hB62, hvf_28⟩) hP hD hK hS dX12_works_637 hlocks
                              · exact absurd (by decide) c_51
                            · exact absurd c_50 (by decide)
                          · exact absurd c_49 (by decide)
                        · have kc_48 : j_14.toInt = j_20.toInt := by have h9 := x_tri j_14 j_20; (try simp only [Int64.reduceToInt] at h9); rcases h9 with ⟨g1, g2⟩ | ⟨g1, g2⟩ | ⟨g1, g2⟩ <;> first | omega | (exfalso; rw [g1] at c_48; revert c_48; decide)
                          refine lv_iconst (v := 1) hx hb dX12_works_567 (by decide) ?_
                          refine lv_goto (tgt := 572) hx hb dX12_works_568 (by decide) ?_
                          refine lv_istore (lv' := [(14, .int 1), (13, .int 0), (11, .long j_20), (9, .long j_17), (7, .long j_14), (5, .long j_11), (4, .int i_8), (3, .int i_5), (0, .ref (ad 1)), (1, .int 1), (2, .int 13)]) hx hb dX12_works_572 hl (by decide) rfl (fun ls hl => ?_)
                          refine lv_aload_n hx hb dX12_works_574 rfl (lv_at hl 8 rfl) ?_
                          refine va_get (D := D) (ci := 11) (v := .ref (ad 72)) (C := RX12) (T := TX12) (N := 85) hx hb hts inX12 hown hK hP 0 mwd_o0 rfl 72 (by decide) fl160 (fun _ h9 => h9) rfl dX12_works_575 ?_
                          refine lv_aload_n hx hb dX12_works_578 rfl (lv_at hl 8 rfl) ?_
                          refine va_get (D := D) (ci := 11) (v := .int i_30) (C := RX12) (T := TX12) (N := 85) hx hb hts inX12 hown hK hP 0 mwd_o0 rfl 73 (by decide) fl421 (fun _ h9 => h9) rfl dX12_works_579 ?_
                          refine lv_iload_n hx hb dX12_works_582 rfl (lv_at hl 10 rfl) ?_
                          refine lv_bipush (v := 11) hx hb dX12_works_583 (by decide) ?_
                          refine lv_icmp_ne (tgt := 596) hx hb dX12_works_585 (by decide) (fun c_54 => ?_) (fun c_54 => ?_)
                          · refine lv_iload_n hx hb dX12_works_596 rfl (lv_at hl 10 rfl) ?_
                            refine lv_bipush (v := 12) hx hb dX12_works_597 (by decide) ?_
                            refine lv_icmp_ne (tgt := 615) hx hb dX12_works_599 (by decide) (fun c_55 => ?_) (fun c_55 => ?_)
                            · refine lv_iload hx hb dX12_works_615 (lv_at hl 0 rfl) ?_
                              refine lv_if_eq (tgt := 624) hx hb dX12_works_617 (by decide) (fun c_56 => ?_) (fun c_56 => ?_)
                              · exact absurd c_56 (by decide)
                              · refine lv_iconst (v := 1) hx hb dX12_works_620 (by decide) ?_
                                refine lv_goto (tgt := 625) hx hb dX12_works_621 (by decide) ?_
                                refine va_iast hx hb hK hP hD hS 49 2 mwd_a49 rfl (x_in (by omega) (by omega)) dX12_works_625 (fun H locs hP hD hS => ?_)
                                obtain ⟨f_57, ef_57⟩ : ∃ z9 : Nat → Int32, z9 = (upd (σ.2.2.1 72) (Int32.toNatClampNeg i_30) 1) := ⟨_, rfl⟩
                                have hP : va_P D vwCl (mwd y ad zw (tI (sJ (sJ (sI (sJ (sJ (sI (tI (sI (tI (sI σ 44 0) 63 f_28) 73 i_30) 66 f_35) 44 n_36) 42 j_37) 43 j_38) 68 n_39) 69 j_40) 70 j_41) 72 f_57)) H := by rw [ef_57]; exact x_trP hP mwd_s49
                                have hD : va_D A (mwd y ad zw (tI (sJ (sJ (sI (sJ (sJ (sI (tI (sI (tI (sI σ 44 0) 63 f_28) 73 i_30) 66 f_35) 44 n_36) 42 j_37) 43 j_38) 68 n_39) 69 j_40) 70 j_41) 72 f_57)) := by rw [ef_57]; exact x_trD hD mwd_s49
                                have pf_57 : PT (false :: T) f_57 ((σ.2.2.1 62) 1).toInt := by rw [ef_57]; exact PT_pushF (PT_mono (by omega) hPT.2.2) (x_cl (by omega)) (by decide)
                                refine lv_aload_n hx hb dX12_works_626 rfl (lv_at hl 8 rfl) ?_
                                refine lv_dup hx hb dX12_works_627 rfl ?_
                                refine va_get (D := D) (ci := 11) (v := .int i_30) (C := RX12) (T := TX12) (N := 85) hx hb hts inX12 hown hK hP 0 mwd_o0 rfl 73 (by decide) fl421 (fun _ h9 => h9) rfl dX12_works_628 ?_
                                refine lv_iconst (v := 1) hx hb dX12_works_631 (by decide) ?_
                                refine lv_iadd hx hb dX12_works_632 ?_
                                refine lv_topi (fun i_58 ei_58 => ?_)
                                have vi_58 : i_58.toInt = i_30.toInt + 1 := by have h9 := x_add ei_58 (by omega) (by omega); omega
                                refine va_put (D := D) (ci := 11) (v := .int i_58) (ty := .int) (C := RX12) (T := TX12) (N := 85) hx hb hts inX12 tyX12 tyX12_ok nmX12 hown hK hP hD hS 0 mwd_o0 rfl 73 (by decide) fl421 (fun _ h9 => h9) rfl (by decide +kernel) rfl rfl (Nat.le_of_ble_eq_true rfl) dX12_works_633 (fun H locs hP hD hS => ?_)
                                have hP : va_P D vwCl (mwd y ad zw (sI (tI (sJ (sJ (sI (sJ (sJ (sI (tI (sI (tI (sI σ 44 0) 63 f_28) 73 i_30) 66 f_35) 44 n_36) 42 j_37) 43 j_38) 68 n_39) 69 j_40) 70 j_41) 72 f_57) 73 i_58)) H := x_trP hP mwd_p0_73
                                have hD : va_D A (mwd y ad zw (sI (tI (sJ (sJ (sI (sJ (sJ (sI (tI (sI (tI (sI σ 44 0) 63 f_28) 73 i_30) 66 f_35) 44 n_36) 42 j_37) 43 j_38) 68 n_39) 69 j_40) 70 j_41) 72 f_57) 73 i_58)) := x_trD hD mwd_p0_73
                                refine lv_iconst (v := 1) hx hb dX12_works_636 (by decide) ?_
                                have hP : va_P D vwCl (mwd y ad zw (tI (tI (tI (tI (tJ (tJ (sJ (sJ (sI (sJ (sJ (sI (tI (tI (tI (tI (sI σ 73 i_58) 72 f_57) 63 f_28) 67 (σ.2.2.1 67)) 66 f_35) 44 n_36) 42 j_37) 43 j_38) 68 n_39) 69 j_40) 70 j_41) 57 (σ.2.2.2 57)) 58 (σ.2.2.2 58)) 59 (σ.2.2.1 59)) 60 (σ.2.2.1 60)) 61 (σ.2.2.1 61)) 62 (σ.2.2.1 62))) H := hP
                                have hD : va_D A (mwd y ad zw (tI (tI (tI (tI (tJ (tJ (sJ (sJ (sI (sJ (sJ (sI (tI (tI (tI (tI (sI σ 73 i_58) 72 f_57) 63 f_28) 67 (σ.2.2.1 67)) 66 f_35) 44 n_36) 42 j_37) 43 j_38) 68 n_39) 69 j_40) 70 j_41) 57 (σ.2.2.2 57)) 58 (σ.2.2.2 58)) 59 (σ.2.2.1 59)) 60 (σ.2.2.1 60)) 61 (σ.2.2.1 61)) 62 (σ.2.2.1 62))) := hD
                                exact x_zretW (v := 1) (u := (i_58, f_57, f_28, (σ.2.2.1 67), f_35, n_36, j_37, j_38, n_39, j_40, j_41, (σ.2.2.2 57), (σ.2.2.2 58), (σ.2.2.1 59), (σ.2.2.1 60), (σ.2.2.1 61), (σ.2.2.1 62))) hx hb hr hQ rfl (by (try dsimp only); exact ⟨⟨Or.inr ⟨by omega, pf_57, by omega, rfl⟩, hop, by omega, by omega, rfl⟩, hB57, hB58, hB62, hvf_28⟩) hP hD hK hS dX12_works_637 hlocks
                            · exact absurd c_55 (by decide)
                          · exact absurd c_54 (by decide)
                    · exact absurd c_34 (by decide)
                · exact absurd c_32 (by decide)
              · exact absurd (by decide) c_31
            · exact absurd c_29 (by decide)
          · exact absurd (by decide) c_25
        · have kc_23 : j_21.toInt < j_22.toInt := by have h9 := x_tri j_21 j_22; (try simp only [Int64.reduceToInt] at h9); rcases h9 with ⟨g1, g2⟩ | ⟨g1, g2⟩ | ⟨g1, g2⟩ <;> first | omega | (exfalso; rw [g1] at c_23; revert c_23; decide)
          refine lv_iconst (v := 1) hx hb dX12_works_148 (by decide) ?_
          refine lv_goto (tgt := 153) hx hb dX12_works_149 (by decide) ?_
          refine lv_istore (lv' := [(13, .int 1), (11, .long j_20), (9, .long j_17), (7, .long j_14), (5, .long j_11), (4, .int i_8), (3, .int i_5), (0, .ref (ad 1)), (1, .int 1), (2, .int 13)]) hx hb dX12_works_153 hl (by decide) rfl (fun ls hl => ?_)
          refine lv_aload_n hx hb dX12_works_155 rfl (lv_at hl 7 rfl) ?_
          refine lv_iconst (v := 0) hx hb dX12_works_156 (by decide) ?_
          refine va_put (D := D) (ci := 11) (v := .int 0) (ty := .boolean) (C := RX12) (T := TX12) (N := 85) hx hb hts inX12 tyX12 tyX12_ok nmX12 hown hK hP hD hS 0 mwd_o0 rfl 44 (by decide) fl384 (fun _ h9 => h9) rfl (by decide +kernel) rfl rfl (Nat.le_of_ble_eq_true rfl) dX12_works_157 (fun H locs hP hD hS => ?_)
          have hP : va_P D vwCl (mwd y ad zw (sI σ 44 0)) H := x_trP hP mwd_p0_44
          have hD : va_D A (mwd y ad zw (sI σ 44 0)) := x_trD hD mwd_p0_44
          refine lv_iload_n hx hb dX12_works_160 rfl (lv_at hl 9 rfl) ?_
          refine lv_tableOut (tgt := 252) hx hb dX12_works_161 (by decide) (by decide) ?_
          refine lv_aload_n hx hb dX12_works_252 rfl (lv_at hl 7 rfl) ?_
          refine va_get (D := D) (ci := 11) (v := .int 0) (C := RX12) (T := TX12) (N := 85) hx hb hts inX12 hown hK hP 0 mwd_o0 rfl 44 (by decide) fl384 (fun _ h9 => h9) rfl dX12_works_253 ?_
          refine lv_if_eq (tgt := 268) hx hb dX12_works_256 (by decide) (fun c_60 => ?_) (fun c_60 => ?_)
          · refine lv_aload_n hx hb dX12_works_268 rfl (lv_at hl 7 rfl) ?_
            refine va_get (D := D) (ci := 11) (v := .ref (ad 63)) (C := RX12) (T := TX12) (N := 85) hx hb hts inX12 hown hK hP 0 mwd_o0 rfl 63 (by decide) fl142 (fun _ h9 => h9) rfl dX12_works_269 ?_
            refine lv_iload_n hx hb dX12_works_272 rfl (lv_at hl 8 rfl) ?_
            refine lv_dup2_11 hx hb dX12_works_273 rfl rfl ?_
            refine va_iald hx hb hK hP 43 2 mwd_a43 rfl (x_in (by decide) (by decide)) dX12_works_274 ?_
            refine lv_topi (fun i_61 ei_61 => ?_)
            have ei_61 : i_61 = (σ.2.2.1 63) (Int32.toNatClampNeg 1) := ei_61
            have gi_61 : i_61.toInt = (σ.2.2.1 63 1).toInt := by rw [ei_61]; rfl
            have bi_61 := b_at hB63 ei_61
            refine lv_iconst (v := 1) hx hb dX12_works_275 (by decide) ?_
            refine lv_iadd hx hb dX12_works_276 ?_
            refine lv_topi (fun i_62 ei_62 => ?_)
            have vi_62 : i_62.toInt = i_61.toInt + 1 := by have h9 := x_add ei_62 (by omega) (by omega); omega
            refine va_iast hx hb hK hP hD hS 43 2 mwd_a43 rfl (x_in (by decide) (by decide)) dX12_works_277 (fun H locs hP hD hS => ?_)
            obtain ⟨f_63, ef_63⟩ : ∃ z9 : Nat → Int32, z9 = (upd (σ.2.2.1 63) (Int32.toNatClampNeg 1) i_62) := ⟨_, rfl⟩
            have hP : va_P D vwCl (mwd y ad zw (tI (sI σ 44 0) 63 f_63)) H := by rw [ef_63]; exact x_trP hP mwd_s43
            have hD : va_D A (mwd y ad zw (tI (sI σ 44 0) 63 f_63)) := by rw [ef_63]; exact x_trD hD mwd_s43
            have hvf_63 : bI f_63 0 1000 := by rw [ef_63]; exact b_upd hB63 (by omega) (by omega)
            have sf_63 : (f_63 1).toInt = i_62.toInt := by rw [ef_63]; exact congrArg Int32.toInt (x_upd_same _ 1 _)
            refine lv_aload_n hx hb dX12_works_278 rfl (lv_at hl 7 rfl) ?_
            refine lv_dup hx hb dX12_works_279 rfl ?_
            refine va_get (D := D) (ci := 11) (v := .int (σ.1 73)) (C := RX12) (T := TX12) (N := 85) hx hb hts inX12 hown hK hP 0 mwd_o0 rfl 73 (by decide) fl421 (fun _ h9 => h9) rfl dX12_works_280 ?_
            refine lv_iload_n hx hb dX12_works_283 rfl (lv_at hl 9 rfl) ?_
            refine lv_bipush (v := 7) hx hb dX12_works_284 (by decide) ?_
            refine lv_icmp_ne (tgt := 293) hx hb dX12_works_286 (by decide) (fun c_64 => ?_) (fun c_64 => ?_)
            · refine lv_iconst (v := 2) hx hb dX12_works_293 (by decide) ?_
              refine lv_isub hx hb dX12_works_294 ?_
              refine lv_topi (fun i_65 ei_65 => ?_)
              have vi_65 : i_65.toInt = (σ.1 73).toInt - 2 := by have h9 := x_sub ei_65 (by omega) (by omega); omega
              refine va_put (D := D) (ci := 11) (v := .int i_65) (ty := .int) (C := RX12) (T := TX12) (N := 85) hx hb hts inX12 tyX12 tyX12_ok nmX12 hown hK hP hD hS 0 mwd_o0 rfl 73 (by decide) fl421 (fun _ h9 => h9) rfl (by decide +kernel) rfl rfl (Nat.le_of_ble_eq_true rfl) dX12_works_295 (fun H locs hP hD hS => ?_)
              have hP : va_P D vwCl (mwd y ad zw (sI (tI (sI σ 44 0) 63 f_63) 73 i_65)) H := x_trP hP mwd_p0_73
              have hD : va_D A (mwd y ad zw (sI (tI (sI σ 44 0) 63 f_63) 73 i_65)) := x_trD hD mwd_p0_73
              refine lv_iload_n hx hb dX12_works_298 rfl (lv_at hl 9 rfl) ?_
              refine lv_iconst (v := 4) hx hb dX12_works_299 (by decide) ?_
              refine lv_icmp_gt (tgt := 340) hx hb dX12_works_300 (by decide) (fun c_66 => ?_) (fun c_66 => ?_)
              · refine lv_iload_n hx hb dX12_works_340 rfl (lv_at hl 9 rfl) ?_
                refine lv_bipush (v := 7) hx hb dX12_works_341 (by decide) ?_
                refine lv_icmp_ne (tgt := 394) hx hb dX12_works_343 (by decide) (fun c_67 => ?_) (fun c_67 => ?_)
                · refine lv_iload_n hx hb dX12_works_394 rfl (lv_at hl 9 rfl) ?_
                  refine lv_iconst (v := 5) hx hb dX12_works_395 (by decide) ?_
                  refine lv_icmp_eq (tgt := 405) hx hb dX12_works_396 (by decide) (fun c_68 => ?_) (fun c_68 => ?_)
                  · exact absurd c_68 (by decide)
                  · refine lv_iload_n hx hb dX12_works_399 rfl (lv_at hl 9 rfl) ?_
                    refine lv_bipush (v := 6) hx hb dX12_works_400 (by decide) ?_
                    refine lv_icmp_ne (tgt := 538) hx hb dX12_works_402 (by decide) (fun c_69 => ?_) (fun c_69 => ?_)
                    · refine lv_aload_n hx hb dX12_works_538 rfl (lv_at hl 7 rfl) ?_
                      refine lv_iload_n hx hb dX12_works_539 rfl (lv_at hl 8 rfl) ?_
                      refine lv_lload hx hb dX12_works_540 (lv_at hl 4 rfl) ?_
                      refine lv_lload hx hb dX12_works_542 (lv_at hl 3 rfl) ?_
                      refine lv_lload hx hb dX12_works_544 (lv_at hl 2 rfl) ?_
                      refine lv_lload hx hb dX12_works_546 (lv_at hl 1 rfl) ?_
                      refine x_callvW (va_runV (As := [.int 1, .long j_11, .long j_14, .long j_17, .long j_20]) (rest := []) ⟨hx, hb, hml, hown, hts⟩ (q_nears1 l D y H.size ad zw (sI (tI (sI σ 44 0) 63 f_63) 73 i_65) j_11 j_14 j_17 j_20 (by first | omega | decide) (by first | omega | decide) (by first | omega | decide) (by first | omega | decide) (by first | omega | decide) (by first | omega | decide) (by first | omega | decide) (by first | omega | decide)) (cwV 5 hts g_q_works1_13_0 rfl rfl rfl (by decide +kernel) ⟨Nat.le_of_ble_eq_true rfl, Nat.le_of_ble_eq_true rfl⟩) (x_preV (q := (RX12, TX12, 85)) hK hP hD (ci := 11) (q0 := 0) rfl mwd_o0) rfl rfl hl.1 rfl (lv_room (Nat.le_of_ble_eq_true rfl)) dX12_works_548 ⟨Nat.le_of_ble_eq_true rfl, Nat.le_of_ble_eq_true rfl⟩) hP hD hS hA (fun u H locs hw hP hD hS => ?_)
                      obtain ⟨f_70, n_71, j_72, j_73, n_74, j_75, j_76⟩ := u
                      try dsimp only at hw
                      have hP : va_P D vwCl (mwd y ad zw (sJ (sJ (sI (sJ (sJ (sI (tI (sI (tI (sI σ 44 0) 63 f_63) 73 i_65) 66 f_70) 44 n_71) 42 j_72) 43 j_73) 68 n_74) 69 j_75) 70 j_76)) H := hP
                      have hD : va_D A (mwd y ad zw (sJ (sJ (sI (sJ (sJ (sI (tI (sI (tI (sI σ 44 0) 63 f_63) 73 i_65) 66 f_70) 44 n_71) 42 j_72) 43 j_73) 68 n_74) 69 j_75) 70 j_76)) := hD
                      have hw : True := hw
                      refine lv_lload hx hb dX12_works_551 (lv_at hl 4 rfl) ?_
                      refine lv_lload hx hb dX12_works_553 (lv_at hl 2 rfl) ?_
                      refine W.lcmp hx hb dX12_works_555 ?_
                      refine lv_if_ne (tgt := 571) hx hb dX12_works_556 (by decide) (fun c_77 => ?_) (fun c_77 => ?_)
                      · have kc_77 : j_11.toInt ≠ j_17.toInt := by have h9 := x_tri j_11 j_17; (try simp only [Int64.reduceToInt] at h9); rcases h9 with ⟨g1, g2⟩ | ⟨g1, g2⟩ | ⟨g1, g2⟩ <;> first | omega | (exfalso; rw [g1] at c_77; revert c_77; decide)
                        refine lv_iconst (v := 0) hx hb dX12_works_571 (by decide) ?_
                        refine lv_istore (lv' := [(14, .int 0), (13, .int 1), (11, .long j_20), (9, .long j_17), (7, .long j_14), (5, .long j_11), (4, .int i_8), (3, .int i_5), (0, .ref (ad 1)), (1, .int 1), (2, .int 13)]) hx hb dX12_works_572 hl (by decide) rfl (fun ls hl => ?_)
                        refine lv_aload_n hx hb dX12_works_574 rfl (lv_at hl 8 rfl) ?_
                        refine va_get (D := D) (ci := 11) (v := .ref (ad 72)) (C := RX12) (T := TX12) (N := 85) hx hb hts inX12 hown hK hP 0 mwd_o0 rfl 72 (by decide) fl160 (fun _ h9 => h9) rfl dX12_works_575 ?_
                        refine lv_aload_n hx hb dX12_works_578 rfl (lv_at hl 8 rfl) ?_
                        refine va_get (D := D) (ci := 11) (v := .int i_65) (C := RX12) (T := TX12) (N := 85) hx hb hts inX12 hown hK hP 0 mwd_o0 rfl 73 (by decide) fl421 (fun _ h9 => h9) rfl dX12_works_579 ?_
                        refine lv_iload_n hx hb dX12_works_582 rfl (lv_at hl 10 rfl) ?_
                        refine lv_bipush (v := 11) hx hb dX12_works_583 (by decide) ?_
                        refine lv_icmp_ne (tgt := 596) hx hb dX12_works_585 (by decide) (fun c_78 => ?_) (fun c_78 => ?_)
                        · refine lv_iload_n hx hb dX12_works_596 rfl (lv_at hl 10 rfl) ?_
                          refine lv_bipush (v := 12) hx hb dX12_works_597 (by decide) ?_
                          refine lv_icmp_ne (tgt := 615) hx hb dX12_works_599 (by decide) (fun c_79 => ?_) (fun c_79 => ?_)
                          · refine lv_iload hx hb dX12_works_615 (lv_at hl 0 rfl) ?_
                            refine lv_if_eq (tgt := 624) hx hb dX12_works_617 (by decide) (fun c_80 => ?_) (fun c_80 => ?_)
                            · refine lv_iconst (v := 0) hx hb dX12_works_624 (by decide) ?_
                              refine va_iast hx hb hK hP hD hS 49 2 mwd_a49 rfl (x_in (by omega) (by omega)) dX12_works_625 (fun H locs hP hD hS => ?_)
                              obtain ⟨f_81, ef_81⟩ : ∃ z9 : Nat → Int32, z9 = (upd (σ.2.2.1 72) (Int32.toNatClampNeg i_65) 0) := ⟨_, rfl⟩
                              have hP : va_P D vwCl (mwd y ad zw (tI (sJ (sJ (sI (sJ (sJ (sI (tI (sI (tI (sI σ 44 0) 63 f_63) 73 i_65) 66 f_70) 44 n_71) 42 j_72) 43 j_73) 68 n_74) 69 j_75) 70 j_76) 72 f_81)) H := by rw [ef_81]; exact x_trP hP mwd_s49
                              have hD : va_D A (mwd y ad zw (tI (sJ (sJ (sI (sJ (sJ (sI (tI (sI (tI (sI σ 44 0) 63 f_63) 73 i_65) 66 f_70) 44 n_71) 42 j_72) 43 j_73) 68 n_74) 69 j_75) 70 j_76) 72 f_81)) := by rw [ef_81]; exact x_trD hD mwd_s49
                              have pf_81 : PT (false :: T) f_81 ((σ.2.2.1 62) 1).toInt := by rw [ef_81]; exact PT_pushF (PT_mono (by omega) hPT.2.2) (x_cl (by omega)) (by decide)
                              refine lv_aload_n hx hb dX12_works_626 rfl (lv_at hl 8 rfl) ?_
                              refine lv_dup hx hb dX12_works_627 rfl ?_
                              refine va_get (D := D) (ci := 11) (v := .int i_65) (C := RX12) (T := TX12) (N := 85) hx hb hts inX12 hown hK hP 0 mwd_o0 rfl 73 (by decide) fl421 (fun _ h9 => h9) rfl dX12_works_628 ?_
                              refine lv_iconst (v := 1) hx hb dX12_works_631 (by decide) ?_
                              refine lv_iadd hx hb dX12_works_632 ?_
                              refine lv_topi (fun i_82 ei_82 => ?_)
                              have vi_82 : i_82.toInt = i_65.toInt + 1 := by have h9 := x_add ei_82 (by omega) (by omega); omega
                              refine va_put (D := D) (ci := 11) (v := .int i_82) (ty := .int) (C := RX12) (T := TX12) (N := 85) hx hb hts inX12 tyX12 tyX12_ok nmX12 hown hK hP hD hS 0 mwd_o0 rfl 73 (by decide) fl421 (fun _ h9 => h9) rfl (by decide +kernel) rfl rfl (Nat.le_of_ble_eq_true rfl) dX12_works_633 (fun H locs hP hD hS => ?_)
                              have hP : va_P D vwCl (mwd y ad zw (sI (tI (sJ (sJ (sI (sJ (sJ (sI (tI (sI (tI (sI σ 44 0) 63 f_63) 73 i_65) 66 f_70) 44 n_71) 42 j_72) 43 j_73) 68 n_74) 69 j_75) 70 j_76) 72 f_81) 73 i_82)) H := x_trP hP mwd_p0_73
                              have hD : va_D A (mwd y ad zw (sI (tI (sJ (sJ (sI (sJ (sJ (sI (tI (sI (tI (sI σ 44 0) 63 f_63) 73 i_65) 66 f_70) 44 n_71) 42 j_72) 43 j_73) 68 n_74) 69 j_75) 70 j_76) 72 f_81) 73 i_82)) := x_trD hD mwd_p0_73
                              refine lv_iconst (v := 1) hx hb dX12_works_636 (by decide) ?_
                              have hP : va_P D vwCl (mwd y ad zw (tI (tI (tI (tI (tJ (tJ (sJ (sJ (sI (sJ (sJ (sI (tI (tI (tI (tI (sI σ 73 i_82) 72 f_81) 63 f_63) 67 (σ.2.2.1 67)) 66 f_70) 44 n_71) 42 j_72) 43 j_73) 68 n_74) 69 j_75) 70 j_76) 57 (σ.2.2.2 57)) 58 (σ.2.2.2 58)) 59 (σ.2.2.1 59)) 60 (σ.2.2.1 60)) 61 (σ.2.2.1 61)) 62 (σ.2.2.1 62))) H := hP
                              have hD : va_D A (mwd y ad zw (tI (tI (tI (tI (tJ (tJ (sJ (sJ (sI (sJ (sJ (sI (tI (tI (tI (tI (sI σ 73 i_82) 72 f_81) 63 f_63) 67 (σ.2.2.1 67)) 66 f_70) 44 n_71) 42 j_72) 43 j_73) 68 n_74) 69 j_75) 70 j_76) 57 (σ.2.2.2 57)) 58 (σ.2.2.2 58)) 59 (σ.2.2.1 59)) 60 (σ.2.2.1 60)) 61 (σ.2.2.1 61)) 62 (σ.2.2.1 62))) := hD
                              exact x_zretW (v := 1) (u := (i_82, f_81, f_63, (σ.2.2.1 67), f_70, n_71, j_72, j_73, n_74, j_75, j_76, (σ.2.2.2 57), (σ.2.2.2 58), (σ.2.2.1 59), (σ.2.2.1 60), (σ.2.2.1 61), (σ.2.2.1 62))) hx hb hr hQ rfl (by (try dsimp only); exact ⟨⟨Or.inr ⟨by omega, pf_81, by omega, rfl⟩, hop, by omega, by omega, rfl⟩, hB57, hB58, hB62, hvf_63⟩) hP hD hK hS dX12_works_637 hlocks
                            · exact absurd (by decide) c_80
                          · exact absurd c_79 (by decide)
                        · exact absurd c_78 (by decide)
                      · have kc_77 : j_11.toInt = j_17.toInt := by have h9 := x_tri j_11 j_17; (try simp only [Int64.reduceToInt] at h9); rcases h9 with ⟨g1, g2⟩ | ⟨g1, g2⟩ | ⟨g1, g2⟩ <;> first | omega | (exfalso; rw [g1] at c_77; revert c_77; decide)
                        refine lv_lload hx hb dX12_works_559 (lv_at hl 3 rfl) ?_
                        refine lv_lload hx hb dX12_works_561 (lv_at hl 1 rfl) ?_
                        refine W.lcmp hx hb dX12_works_563 ?_
                        refine lv_if_ne (tgt := 571) hx hb dX12_works_564 (by decide) (fun c_83 => ?_) (fun c_83 => ?_)
                        · have kc_83 : j_14.toInt ≠ j_20.toInt := by have h9 := x_tri j_14 j_20; (try simp only [Int64.reduceToInt] at h9); rcases h9 with ⟨g1, g2⟩ | ⟨g1, g2⟩ | ⟨g1, g2⟩ <;> first | omega | (exfalso; rw [g1] at c_83; revert c_83; decide)
                          refine lv_iconst (v := 0) hx hb dX12_works_571 (by decide) ?_
                          refine lv_istore (lv' := [(14, .int 0), (13, .int 1), (11, .long j_20), (9, .long j_17), (7, .long j_14), (5, .long j_11), (4, .int i_8), (3, .int i_5), (0, .ref (ad 1)), (1, .int 1), (2, .int 13)]) hx hb dX12_works_572 hl (by decide) rfl (fun ls hl => ?_)
                          refine lv_aload_n hx hb dX12_works_574 rfl (lv_at hl 8 rfl) ?_
                          refine va_get (D := D) (ci := 11) (v := .ref (ad 72)) (C := RX12) (T := TX12) (N := 85) hx hb hts inX12 hown hK hP 0 mwd_o0 rfl 72 (by decide) fl160 (fun _ h9 => h9) rfl dX12_works_575 ?_
                          refine lv_aload_n hx hb dX12_works_578 rfl (lv_at hl 8 rfl) ?_
                          refine va_get (D := D) (ci := 11) (v := .int i_65) (C := RX12) (T := TX12) (N := 85) hx hb hts inX12 hown hK hP 0 mwd_o0 rfl 73 (by decide) fl421 (fun _ h9 => h9) rfl dX12_works_579 ?_
                          refine lv_iload_n hx hb dX12_works_582 rfl (lv_at hl 10 rfl) ?_
                          refine lv_bipush (v := 11) hx hb dX12_works_583 (by decide) ?_
                          refine lv_icmp_ne (tgt := 596) hx hb dX12_works_585 (by decide) (fun c_84 => ?_) (fun c_84 => ?_)
                          · refine lv_iload_n hx hb dX12_works_596 rfl (lv_at hl 10 rfl) ?_
                            refine lv_bipush (v := 12) hx hb dX12_works_597 (by decide) ?_
                            refine lv_icmp_ne (tgt := 615) hx hb dX12_works_599 (by decide) (fun c_85 => ?_) (fun c_85 => ?_)
                            · refine lv_iload hx hb dX12_works_615 (lv_at hl 0 rfl) ?_
                              refine lv_if_eq (tgt := 624) hx hb dX12_works_617 (by decide) (fun c_86 => ?_) (fun c_86 => ?_)
                              · refine lv_iconst (v := 0) hx hb dX12_works_624 (by decide) ?_
                                refine va_iast hx hb hK hP hD hS 49 2 mwd_a49 rfl (x_in (by omega) (by omega)) dX12_works_625 (fun H locs hP hD hS => ?_)
                                obtain ⟨f_87, ef_87⟩ : ∃ z9 : Nat → Int32, z9 = (upd (σ.2.2.1 72) (Int32.toNatClampNeg i_65) 0) := ⟨_, rfl⟩
                                have hP : va_P D vwCl (mwd y ad zw (tI (sJ (sJ (sI (sJ (sJ (sI (tI (sI (tI (sI σ 44 0) 63 f_63) 73 i_65) 66 f_70) 44 n_71) 42 j_72) 43 j_73) 68 n_74) 69 j_75) 70 j_76) 72 f_87)) H := by rw [ef_87]; exact x_trP hP mwd_s49
                                have hD : va_D A (mwd y ad zw (tI (sJ (sJ (sI (sJ (sJ (sI (tI (sI (tI (sI σ 44 0) 63 f_63) 73 i_65) 66 f_70) 44 n_71) 42 j_72) 43 j_73) 68 n_74) 69 j_75) 70 j_76) 72 f_87)) := by rw [ef_87]; exact x_trD hD mwd_s49
                                have pf_87 : PT (false :: T) f_87 ((σ.2.2.1 62) 1).toInt := by rw [ef_87]; exact PT_pushF (PT_mono (by omega) hPT.2.2) (x_cl (by omega)) (by decide)
                                refine lv_aload_n hx hb dX12_works_626 rfl (lv_at hl 8 rfl) ?_
                                refine lv_dup hx hb dX12_works_627 rfl ?_
                                refine va_get (D := D) (ci := 11) (v := .int i_65) (C := RX12) (T := TX12) (N := 85) hx hb hts inX12 hown hK hP 0 mwd_o0 rfl 73 (by decide) fl421 (fun _ h9 => h9) rfl dX12_works_628 ?_
                                refine lv_iconst (v := 1) hx hb dX12_works_631 (by decide) ?_
                                refine lv_iadd hx hb dX12_works_632 ?_
                                refine lv_topi (fun i_88 ei_88 => ?_)
                                have vi_88 : i_88.toInt = i_65.toInt + 1 := by have h9 := x_add ei_88 (by omega) (by omega); omega
                                refine va_put (D := D) (ci := 11) (v := .int i_88) (ty := .int) (C := RX12) (T := TX12) (N := 85) hx hb hts inX12 tyX12 tyX12_ok nmX12 hown hK hP hD hS 0 mwd_o0 rfl 73 (by decide) fl421 (fun _ h9 => h9) rfl (by decide +kernel) rfl rfl (Nat.le_of_ble_eq_true rfl) dX12_works_633 (fun H locs hP hD hS => ?_)
                                have hP : va_P D vwCl (mwd y ad zw (sI (tI (sJ (sJ (sI (sJ (sJ (sI (tI (sI (tI (sI σ 44 0) 63 f_63) 73 i_65) 66 f_70) 44 n_71) 42 j_72) 43 j_73) 68 n_74) 69 j_75) 70 j_76) 72 f_87) 73 i_88)) H := x_trP hP mwd_p0_73
                                have hD : va_D A (mwd y ad zw (sI (tI (sJ (sJ (sI (sJ (sJ (sI (tI (sI (tI (sI σ 44 0) 63 f_63) 73 i_65) 66 f_70) 44 n_71) 42 j_72) 43 j_73) 68 n_74) 69 j_75) 70 j_76) 72 f_87) 73 i_88)) := x_trD hD mwd_p0_73
                                refine lv_iconst (v := 1) hx hb dX12_works_636 (by decide) ?_
                                have hP : va_P D vwCl (mwd y ad zw (tI (tI (tI (tI (tJ (tJ (sJ (sJ (sI (sJ (sJ (sI (tI (tI (tI (tI (sI σ 73 i_88) 72 f_87) 63 f_63) 67 (σ.2.2.1 67)) 66 f_70) 44 n_71) 42 j_72) 43 j_73) 68 n_74) 69 j_75) 70 j_76) 57 (σ.2.2.2 57)) 58 (σ.2.2.2 58)) 59 (σ.2.2.1 59)) 60 (σ.2.2.1 60)) 61 (σ.2.2.1 61)) 62 (σ.2.2.1 62))) H := hP
                                have hD : va_D A (mwd y ad zw (tI (tI (tI (tI (tJ (tJ (sJ (sJ (sI (sJ (sJ (sI (tI (tI (tI (tI (sI σ 73 i_88) 72 f_87) 63 f_63) 67 (σ.2.2.1 67)) 66 f_70) 44 n_71) 42 j_72) 43 j_73) 68 n_74) 69 j_75) 70 j_76) 57 (σ.2.2.2 57)) 58 (σ.2.2.2 58)) 59 (σ.2.2.1 59)) 60 (σ.2.2.1 60)) 61 (σ.2.2.1 61)) 62 (σ.2.2.1 62))) := hD
                                exact x_zretW (v := 1) (u := (i_88, f_87, f_63, (σ.2.2.1 67), f_70, n_71, j_72, j_73, n_74, j_75, j_76, (σ.2.2.2 57), (σ.2.2.2 58), (σ.2.2.1 59), (σ.2.2.1 60), (σ.2.2.1 61), (σ.2.2.1 62))) hx hb hr hQ rfl (by (try dsimp only); exact ⟨⟨Or.inr ⟨by omega, pf_87, by omega, rfl⟩, hop, by omega, by omega, rfl⟩, hB57, hB58, hB62, hvf_63⟩) hP hD hK hS dX12_works_637 hlocks
                              · exact absurd (by decide) c_86
                            · exact absurd c_85 (by decide)
                          · exact absurd c_84 (by decide)
                        · have kc_83 : j_14.toInt = j_20.toInt := by have h9 := x_tri j_14 j_20; (try simp only [Int64.reduceToInt] at h9); rcases h9 with ⟨g1, g2⟩ | ⟨g1, g2⟩ | ⟨g1, g2⟩ <;> first | omega | (exfalso; rw [g1] at c_83; revert c_83; decide)
                          refine lv_iconst (v := 1) hx hb dX12_works_567 (by decide) ?_
                          refine lv_goto (tgt := 572) hx hb dX12_works_568 (by decide) ?_
                          refine lv_istore (lv' := [(14, .int 1), (13, .int 1), (11, .long j_20), (9, .long j_17), (7, .long j_14), (5, .long j_11), (4, .int i_8), (3, .int i_5), (0, .ref (ad 1)), (1, .int 1), (2, .int 13)]) hx hb dX12_works_572 hl (by decide) rfl (fun ls hl => ?_)
                          refine lv_aload_n hx hb dX12_works_574 rfl (lv_at hl 8 rfl) ?_
                          refine va_get (D := D) (ci := 11) (v := .ref (ad 72)) (C := RX12) (T := TX12) (N := 85) hx hb hts inX12 hown hK hP 0 mwd_o0 rfl 72 (by decide) fl160 (fun _ h9 => h9) rfl dX12_works_575 ?_
                          refine lv_aload_n hx hb dX12_works_578 rfl (lv_at hl 8 rfl) ?_
                          refine va_get (D := D) (ci := 11) (v := .int i_65) (C := RX12) (T := TX12) (N := 85) hx hb hts inX12 hown hK hP 0 mwd_o0 rfl 73 (by decide) fl421 (fun _ h9 => h9) rfl dX12_works_579 ?_
                          refine lv_iload_n hx hb dX12_works_582 rfl (lv_at hl 10 rfl) ?_
                          refine lv_bipush (v := 11) hx hb dX12_works_583 (by decide) ?_
                          refine lv_icmp_ne (tgt := 596) hx hb dX12_works_585 (by decide) (fun c_89 => ?_) (fun c_89 => ?_)
                          · refine lv_iload_n hx hb dX12_works_596 rfl (lv_at hl 10 rfl) ?_
                            refine lv_bipush (v := 12) hx hb dX12_works_597 (by decide) ?_
                            refine lv_icmp_ne (tgt := 615) hx hb dX12_works_599 (by decide) (fun c_90 => ?_) (fun c_90 => ?_)
                            · refine lv_iload hx hb dX12_works_615 (lv_at hl 0 rfl) ?_
                              refine lv_if_eq (tgt := 624) hx hb dX12_works_617 (by decide) (fun c_91 => ?_) (fun c_91 => ?_)
                              · exact absurd c_91 (by decide)
                              · refine lv_iconst (v := 1) hx hb dX12_works_620 (by decide) ?_
                                refine lv_goto (tgt := 625) hx hb dX12_works_621 (by decide) ?_
                                refine va_iast hx hb hK hP hD hS 49 2 mwd_a49 rfl (x_in (by omega) (by omega)) dX12_works_625 (fun H locs hP hD hS => ?_)
                                obtain ⟨f_92, ef_92⟩ : ∃ z9 : Nat → Int32, z9 = (upd (σ.2.2.1 72) (Int32.toNatClampNeg i_65) 1) := ⟨_, rfl⟩
                                have hP : va_P D vwCl (mwd y ad zw (tI (sJ (sJ (sI (sJ (sJ (sI (tI (sI (tI (sI σ 44 0) 63 f_63) 73 i_65) 66 f_70) 44 n_71) 42 j_72) 43 j_73) 68 n_74) 69 j_75) 70 j_76) 72 f_92)) H := by rw [ef_92]; exact x_trP hP mwd_s49
                                have hD : va_D A (mwd y ad zw (tI (sJ (sJ (sI (sJ (sJ (sI (tI (sI (tI (sI σ 44 0) 63 f_63) 73 i_65) 66 f_70) 44 n_71) 42 j_72) 43 j_73) 68 n_74) 69 j_75) 70 j_76) 72 f_92)) := by rw [ef_92]; exact x_trD hD mwd_s49
                                have pf_92 : PT (false :: T) f_92 ((σ.2.2.1 62) 1).toInt := by rw [ef_92]; exact PT_pushF (PT_mono (by omega) hPT.2.2) (x_cl (by omega)) (by decide)
                                refine lv_aload_n hx hb dX12_works_626 rfl (lv_at hl 8 rfl) ?_
                                refine lv_dup hx hb dX12_works_627 rfl ?_
                                refine va_get (D := D) (ci := 11) (v := .int i_65) (C := RX12) (T := TX12) (N := 85) hx hb hts inX12 hown hK hP 0 mwd_o0 rfl 73 (by decide) fl421 (fun _ h9 => h9) rfl dX12_works_628 ?_
                                refine lv_iconst (v := 1) hx hb dX12_works_631 (by decide) ?_
                                refine lv_iadd hx hb dX12_works_632 ?_
                                refine lv_topi (fun i_93 ei_93 => ?_)
                                have vi_93 : i_93.toInt = i_65.toInt + 1 := by have h9 := x_add ei_93 (by omega) (by omega); omega
                                refine va_put (D := D) (ci := 11) (v := .int i_93) (ty := .int) (C := RX12) (T := TX12) (N := 85) hx hb hts inX12 tyX12 tyX12_ok nmX12 hown hK hP hD hS 0 mwd_o0 rfl 73 (by decide) fl421 (fun _ h9 => h9) rfl (by decide +kernel) rfl rfl (Nat.le_of_ble_eq_true rfl) dX12_works_633 (fun H locs hP hD hS => ?_)
                                have hP : va_P D vwCl (mwd y ad zw (sI (tI (sJ (sJ (sI (sJ (sJ (sI (tI (sI (tI (sI σ 44 0) 63 f_63) 73 i_65) 66 f_70) 44 n_71) 42 j_72) 43 j_73) 68 n_74) 69 j_75) 70 j_76) 72 f_92) 73 i_93)) H := x_trP hP mwd_p0_73
                                have hD : va_D A (mwd y ad zw (sI (tI (sJ (sJ (sI (sJ (sJ (sI (tI (sI (tI (sI σ 44 0) 63 f_63) 73 i_65) 66 f_70) 44 n_71) 42 j_72) 43 j_73) 68 n_74) 69 j_75) 70 j_76) 72 f_92) 73 i_93)) := x_trD hD mwd_p0_73
                                refine lv_iconst (v := 1) hx hb dX12_works_636 (by decide) ?_
                                have hP : va_P D vwCl (mwd y ad zw (tI (tI (tI (tI (tJ (tJ (sJ (sJ (sI (sJ (sJ (sI (tI (tI (tI (tI (sI σ 73 i_93) 72 f_92) 63 f_63) 67 (σ.2.2.1 67)) 66 f_70) 44 n_71) 42 j_72) 43 j_73) 68 n_74) 69 j_75) 70 j_76) 57 (σ.2.2.2 57)) 58 (σ.2.2.2 58)) 59 (σ.2.2.1 59)) 60 (σ.2.2.1 60)) 61 (σ.2.2.1 61)) 62 (σ.2.2.1 62))) H := hP
                                have hD : va_D A (mwd y ad zw (tI (tI (tI (tI (tJ (tJ (sJ (sJ (sI (sJ (sJ (sI (tI (tI (tI (tI (sI σ 73 i_93) 72 f_92) 63 f_63) 67 (σ.2.2.1 67)) 66 f_70) 44 n_71) 42 j_72) 43 j_73) 68 n_74) 69 j_75) 70 j_76) 57 (σ.2.2.2 57)) 58 (σ.2.2.2 58)) 59 (σ.2.2.1 59)) 60 (σ.2.2.1 60)) 61 (σ.2.2.1 61)) 62 (σ.2.2.1 62))) := hD
                                exact x_zretW (v := 1) (u := (i_93, f_92, f_63, (σ.2.2.1 67), f_70, n_71, j_72, j_73, n_74, j_75, j_76, (σ.2.2.2 57), (σ.2.2.2 58), (σ.2.2.1 59), (σ.2.2.1 60), (σ.2.2.1 61), (σ.2.2.1 62))) hx hb hr hQ rfl (by (try dsimp only); exact ⟨⟨Or.inr ⟨by omega, pf_92, by omega, rfl⟩, hop, by omega, by omega, rfl⟩, hB57, hB58, hB62, hvf_63⟩) hP hD hK hS dX12_works_637 hlocks
                            · exact absurd c_90 (by decide)
                          · exact absurd c_89 (by decide)
                    · exact absurd c_69 (by decide)
                · exact absurd c_67 (by decide)
              · exact absurd (by decide) c_66
            · exact absurd c_64 (by decide)
          · exact absurd (by decide) c_60
      · exact absurd c_6 (by decide)
    · exact absurd c_3 (by decide)
  · have kc_2 : i_1.toInt = 1000 := by have h9 := c_2; simp only [ge_iff_le, gt_iff_lt, x_lt, x_le, x_eq, ne_eq, Int32.not_lt, Int32.not_le] at h9; simp only [Int32.reduceToInt] at h9; omega
    refine lv_aload_n hx hb dX12_works_12 rfl (lv_at hl 0 rfl) ?_
    refine va_get (D := D) (ci := 11) (v := .ref (ad 67)) (C := RX12) (T := TX12) (N := 85) hx hb hts inX12 hown hK hP 0 mwd_o0 rfl 67 (by decide) fl154 (fun _ h9 => h9) rfl dX12_works_13 ?_
    refine lv_iload_n hx hb dX12_works_16 rfl (lv_at hl 1 rfl) ?_
    refine lv_iconst (v := 2) hx hb dX12_works_17 (by decide) ?_
    refine va_iast hx hb hK hP hD hS 47 2 mwd_a47 rfl (x_in (by decide) (by decide)) dX12_works_18 (fun H locs hP hD hS => ?_)
    obtain ⟨f_94, ef_94⟩ : ∃ z9 : Nat → Int32, z9 = (upd (σ.2.2.1 67) (Int32.toNatClampNeg 1) 2) := ⟨_, rfl⟩
    have hP : va_P D vwCl (mwd y ad zw (tI σ 67 f_94)) H := by rw [ef_94]; exact x_trP hP mwd_s47
    have hD : va_D A (mwd y ad zw (tI σ 67 f_94)) := by rw [ef_94]; exact x_trD hD mwd_s47
    refine lv_iconst (v := 0) hx hb dX12_works_19 (by decide) ?_
    have hP : va_P D vwCl (mwd y ad zw (tI (tI (tI (tI (tJ (tJ (sJ (sJ (sI (sJ (sJ (sI (tI (tI (tI (tI (sI σ 73 (σ.1 73)) 72 (σ.2.2.1 72)) 63 (σ.2.2.1 63)) 67 f_94) 66 (σ.2.2.1 66)) 44 (σ.1 44)) 42 (σ.2.1 42)) 43 (σ.2.1 43)) 68 (σ.1 68)) 69 (σ.2.1 69)) 70 (σ.2.1 70)) 57 (σ.2.2.2 57)) 58 (σ.2.2.2 58)) 59 (σ.2.2.1 59)) 60 (σ.2.2.1 60)) 61 (σ.2.2.1 61)) 62 (σ.2.2.1 62))) H := hP
    have hD : va_D A (mwd y ad zw (tI (tI (tI (tI (tJ (tJ (sJ (sJ (sI (sJ (sJ (sI (tI (tI (tI (tI (sI σ 73 (σ.1 73)) 72 (σ.2.2.1 72)) 63 (σ.2.2.1 63)) 67 f_94) 66 (σ.2.2.1 66)) 44 (σ.1 44)) 42 (σ.2.1 42)) 43 (σ.2.1 43)) 68 (σ.1 68)) 69 (σ.2.1 69)) 70 (σ.2.1 70)) 57 (σ.2.2.2 57)) 58 (σ.2.2.2 58)) 59 (σ.2.2.1 59)) 60 (σ.2.2.1 60)) 61 (σ.2.2.1 61)) 62 (σ.2.2.1 62))) := hD
    exact x_zretW (v := 0) (u := ((σ.1 73), (σ.2.2.1 72), (σ.2.2.1 63), f_94, (σ.2.2.1 66), (σ.1 44), (σ.2.1 42), (σ.2.1 43), (σ.1 68), (σ.2.1 69), (σ.2.1 70), (σ.2.2.2 57), (σ.2.2.2 58), (σ.2.2.1 59), (σ.2.2.1 60), (σ.2.2.1 61), (σ.2.2.1 62))) hx hb hr hQ rfl (by (try dsimp only); exact ⟨⟨Or.inl (by rw [ef_94]; show (upd _ 1 _ 1).toInt ≠ 0; rw [x_upd_same]; decide), hop, by omega, by omega, rfl⟩, hB57, hB58, hB62, hB63⟩) hP hD hK hS dX12_works_20 hlocks

