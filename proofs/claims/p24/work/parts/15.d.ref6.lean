def v_q_works1_5 : List Cond := .code yX12_works cX12_works 15 (some .boolean) :: ([.fieldLink RX12 142 "SlopeRunnerModel" "steps" "[I", .fieldLink RX12 160 "SlopeRunnerModel" "pile" "[I", .fieldLink RX12 421 "SlopeRunnerModel" "piled" "I", .fieldLink RX12 124 "SlopeRunnerModel" "valueAbove" "[J", .fieldLink RX12 127 "SlopeRunnerModel" "valueBelow" "[J", .fieldLink RX12 384 "SlopeRunnerModel" "isStuck" "Z", .fieldLink RX12 139 "SlopeRunnerModel" "laid" "[I", .fieldLink RX12 154 "SlopeRunnerModel" "state" "[I"] ++ ((wsV RX12 437 RX12 yX12_nears v_q_nears1) ++ ((wsV RX12 433 RX12 yX12_lays v_q_lays1) ++ wsX120)))
theorem g_q_works1_5_0 : GoodIn v_q_works1_5 (wsV RX12 437 RX12 yX12_nears v_q_nears1) := goodIn_sub (fun w h => List.mem_cons_of_mem _ (List.mem_append_right _ (List.mem_append_left _ h))) (by decide +kernel)
theorem g_q_works1_5_1 : GoodIn v_q_works1_5 (wsV RX12 433 RX12 yX12_lays v_q_lays1) := goodIn_sub (fun w h => List.mem_cons_of_mem _ (List.mem_append_right _ (List.mem_append_right _ (List.mem_append_left _ h)))) (by decide +kernel)
set_option maxHeartbeats 4000000 in
set_option maxRecDepth 100000 in
theorem q_works1_5 (l : Launch) (D : va_G) (y : Nat → ClassId) (sz : Nat) (ad : Nat → Nat) (zw : Nat → Nat → Int32) (σ : OS) (T : List Bool) (hp : (σ.1 73).toInt = (T.length : Int) + 2) (hT : T.length ≤ 700) (hPT : PT (true :: true :: T) (σ.2.2.1 72) (σ.2.2.1 62 1).toInt) (hop : opc (σ.2.2.1 59) (σ.2.2.1 60) (σ.2.2.1 61)) (hl0 : 0 ≤ (σ.2.2.1 62 1).toInt) (hl1 : (σ.2.2.1 62 1).toInt < 1760) (hB57 : bJ (σ.2.2.2 57) (-1000000000) 1000000000) (hB58 : bJ (σ.2.2.2 58) 0 1000000000) (hB62 : bI (σ.2.2.1 62) 0 1760) (hB63 : bI (σ.2.2.1 63) 0 1000) : Met l yX12_works v_q_works1_5 ({ frames := 1, cells := 0, slots := 0, locals := 31 } : Room) (va_Pc [.ref (ad 1), .int 1, .int 5] (xPre D (xT y) (mwd y ad zw σ) sz)) (va_Qi (fun (r : Int32) (u : Int32 × (Nat → Int32) × (Nat → Int32) × (Nat → Int32) × (Nat → Int32) × Int32 × Int64 × Int64 × Int32 × Int64 × Int64 × (Nat → Int64) × (Nat → Int64) × (Nat → Int32) × (Nat → Int32) × (Nat → Int32) × (Nat → Int32)) => (((u.2.2.2.1 1).toInt ≠ 0 ∨ (u.1.toInt = (T.length : Int) + 1 ∧ PT (true :: T) u.2.1 (u.2.2.2.2.2.2.2.2.2.2.2.2.2.2.2.2 1).toInt ∧ (u.2.2.1 1).toInt = (σ.2.2.1 63 1).toInt + 1 ∧ u.2.2.2.1 = σ.2.2.1 67)) ∧ opc u.2.2.2.2.2.2.2.2.2.2.2.2.2.1 u.2.2.2.2.2.2.2.2.2.2.2.2.2.2.1 u.2.2.2.2.2.2.2.2.2.2.2.2.2.2.2.1 ∧ (σ.2.2.1 62 1).toInt ≤ (u.2.2.2.2.2.2.2.2.2.2.2.2.2.2.2.2 1).toInt ∧ (u.2.2.2.2.2.2.2.2.2.2.2.2.2.2.2.2 1).toInt - (σ.2.2.1 62 1).toInt ≤ (u.2.2.1 1).toInt - (σ.2.2.1 63 1).toInt ∧ u.2.2.2.2.2.2.2.2.2.2.2.2.2.2.2.2 0 = σ.2.2.1 62 0) ∧ bJ u.2.2.2.2.2.2.2.2.2.2.2.1 (-1000000000) 1000000000 ∧ bJ u.2.2.2.2.2.2.2.2.2.2.2.2.1 0 1000000000 ∧ bI u.2.2.2.2.2.2.2.2.2.2.2.2.2.2.2.2 0 1760 ∧ bI u.2.2.1 0 1000) (fun (u : Int32 × (Nat → Int32) × (Nat → Int32) × (Nat → Int32) × (Nat → Int32) × Int32 × Int64 × Int64 × Int32 × Int64 × Int64 × (Nat → Int64) × (Nat → Int64) × (Nat → Int32) × (Nat → Int32) × (Nat → Int32) × (Nat → Int32)) => xB D (xT y) (va_A (mwd y ad zw σ) sz) (mwd y ad zw (tI (tI (tI (tI (tJ (tJ (sJ (sJ (sI (sJ (sJ (sI (tI (tI (tI (tI (sI σ 73 u.1) 72 u.2.1) 63 u.2.2.1) 67 u.2.2.2.1) 66 u.2.2.2.2.1) 44 u.2.2.2.2.2.1) 42 u.2.2.2.2.2.2.1) 43 u.2.2.2.2.2.2.2.1) 68 u.2.2.2.2.2.2.2.2.1) 69 u.2.2.2.2.2.2.2.2.2.1) 70 u.2.2.2.2.2.2.2.2.2.2.1) 57 u.2.2.2.2.2.2.2.2.2.2.2.1) 58 u.2.2.2.2.2.2.2.2.2.2.2.2.1) 59 u.2.2.2.2.2.2.2.2.2.2.2.2.2.1) 60 u.2.2.2.2.2.2.2.2.2.2.2.2.2.2.1) 61 u.2.2.2.2.2.2.2.2.2.2.2.2.2.2.2.1) 62 u.2.2.2.2.2.2.2.2.2.2.2.2.2.2.2.2))) (va_A (mwd y ad zw σ) sz)) 0 0 (va_A (mwd y ad zw σ) sz) := by
  refine x_meti (cc := cX12_works) (maxL := 15) (by decide) rfl (Nat.le_of_ble_eq_true rfl) ?_
  intro p e s m below meth c A H locs Q hx hb hml hown hts hr hlocks hmn hA hP hK hD hS ls hl hQ
  have hl : lv_has ls 15 [(0, .ref (ad 1)), (1, .int 1), (2, .int 5)] := hl
  have fl142 := hts (.fieldLink RX12 142 "SlopeRunnerModel" "steps" "[I") (List.mem_of_getElem? (i := 1) rfl)
  have inX12 : ∀ w ∈ wsX120, w ∈ v_q_works1_5 := (fun w h => List.mem_cons_of_mem _ (List.mem_append_right _ (List.mem_append_right _ (List.mem_append_right _ h))))
  have kk_1000 : (1000 : Int32).toInt = 1000 := rfl
  have fl160 := hts (.fieldLink RX12 160 "SlopeRunnerModel" "pile" "[I") (List.mem_of_getElem? (i := 2) rfl)
  have fl421 := hts (.fieldLink RX12 421 "SlopeRunnerModel" "piled" "I") (List.mem_of_getElem? (i := 3) rfl)
  have kk_1 : (1 : Int32).toInt = 1 := rfl
  have kk_2 : (2 : Int32).toInt = 2 := rfl
  have fl124 := hts (.fieldLink RX12 124 "SlopeRunnerModel" "valueAbove" "[J") (List.mem_of_getElem? (i := 4) rfl)
  have kk_1760 : (1760 : Int32).toInt = 1760 := rfl
  have fl127 := hts (.fieldLink RX12 127 "SlopeRunnerModel" "valueBelow" "[J") (List.mem_of_getElem? (i := 5) rfl)
  have fl384 := hts (.fieldLink RX12 384 "SlopeRunnerModel" "isStuck" "Z") (List.mem_of_getElem? (i := 6) rfl)
  have kk_5 : (5 : Int32).toInt = 5 := rfl
  have fl139 := hts (.fieldLink RX12 139 "SlopeRunnerModel" "laid" "[I") (List.mem_of_getElem? (i := 7) rfl)
  have fl154 := hts (.fieldLink RX12 154 "SlopeRunnerModel" "state" "[I") (List.mem_of_getElem? (i := 8) rfl)
  have kk_0 : (0 : Int32).toInt = 0 := rfl
  refine lv_aload_n hx hb dX12_works_0 rfl (lv_at hl 0 rfl) ?_
  refine va_get (D := D) (ci := 11) (v := .ref (ad 63)) (C := RX12) (T := TX12) (N := 85) hx hb hts inX12 hown hK hP 0 mwd_o0 rfl 63 (by decide) fl142 (fun _ h9 => h9) rfl dX12_works_1 ?_
  refine lv_iload_n hx hb dX12_works_4 rfl (lv_at hl 1 rfl) ?_
  refine va_iald hx hb hK hP 43 2 mwd_a43 rfl (x_in (by decide) (by decide)) dX12_works_5 ?_
  refine lv_topi (fun i_1 ei_1 => ?_)
  have ei_1 : i_1 = (σ.2.2.1 63) (Int32.toNatClampNeg 1) := ei_1
  have gi_1 : i_1.toInt = (σ.2.2.1 63 1).toInt := by rw [ei_1]; rfl
  have bi_1 := b_at hB63 ei_1
  refine lv_sipush (v := 1000) hx hb dX12_works_6 (by decide) ?_
  refine lv_icmp_ne (tgt := 21) hx hb dX12_works_9 (by decide) (fun c_2 => ?_) (fun c_2 => ?_)
  · have kc_2 : i_1.toInt ≠ 1000 := by have h9 := c_2; simp only [ge_iff_le, gt_iff_lt, x_lt, x_le, x_eq, ne_eq, Int32.not_lt, Int32.not_le] at h9; simp only [Int32.reduceToInt] at h9; omega
    refine lv_iload_n hx hb dX12_works_21 rfl (lv_at hl 2 rfl) ?_
    refine lv_bipush (v := 7) hx hb dX12_works_22 (by decide) ?_
    refine lv_icmp_ne (tgt := 41) hx hb dX12_works_24 (by decide) (fun c_3 => ?_) (fun c_3 => ?_)
    · refine lv_aload_n hx hb dX12_works_41 rfl (lv_at hl 0 rfl) ?_
      refine va_get (D := D) (ci := 11) (v := .ref (ad 72)) (C := RX12) (T := TX12) (N := 85) hx hb hts inX12 hown hK hP 0 mwd_o0 rfl 72 (by decide) fl160 (fun _ h9 => h9) rfl dX12_works_42 ?_
      refine lv_aload_n hx hb dX12_works_45 rfl (lv_at hl 0 rfl) ?_
      refine va_get (D := D) (ci := 11) (v := .int (σ.1 73)) (C := RX12) (T := TX12) (N := 85) hx hb hts inX12 hown hK hP 0 mwd_o0 rfl 73 (by decide) fl421 (fun _ h9 => h9) rfl dX12_works_46 ?_
      refine lv_iconst (v := 1) hx hb dX12_works_49 (by decide) ?_
      refine lv_isub hx hb dX12_works_50 ?_
      refine lv_topi (fun i_4 ei_4 => ?_)
      have vi_4 : i_4.toInt = (σ.1 73).toInt - 1 := by have h9 := x_sub ei_4 (by omega) (by omega); omega
      refine va_iald hx hb hK hP 49 2 mwd_a49 rfl (x_in (by omega) (by omega)) dX12_works_51 ?_
      refine lv_topi (fun i_5 ei_5 => ?_)
      have ei_5 : i_5 = (σ.2.2.1 72) (Int32.toNatClampNeg i_4) := ei_5
      have gi_5 := PT_N hPT ei_5 (x_cl (by simp only [List.length_cons]; omega))
      refine lv_istore_n (lv' := [(3, .int i_5), (0, .ref (ad 1)), (1, .int 1), (2, .int 5)]) hx hb dX12_works_52 rfl hl (by decide) rfl (fun ls hl => ?_)
      refine lv_iload_n hx hb dX12_works_53 rfl (lv_at hl 3 rfl) ?_
      refine lv_bipush (v := 7) hx hb dX12_works_54 (by decide) ?_
      refine lv_icmp_ne (tgt := 63) hx hb dX12_works_56 (by decide) (fun c_6 => ?_) (fun c_6 => ?_)
      · refine lv_aload_n hx hb dX12_works_63 rfl (lv_at hl 1 rfl) ?_
        refine va_get (D := D) (ci := 11) (v := .ref (ad 72)) (C := RX12) (T := TX12) (N := 85) hx hb hts inX12 hown hK hP 0 mwd_o0 rfl 72 (by decide) fl160 (fun _ h9 => h9) rfl dX12_works_64 ?_
        refine lv_aload_n hx hb dX12_works_67 rfl (lv_at hl 1 rfl) ?_
        refine va_get (D := D) (ci := 11) (v := .int (σ.1 73)) (C := RX12) (T := TX12) (N := 85) hx hb hts inX12 hown hK hP 0 mwd_o0 rfl 73 (by decide) fl421 (fun _ h9 => h9) rfl dX12_works_68 ?_
        refine lv_iconst (v := 2) hx hb dX12_works_71 (by decide) ?_
        refine lv_isub hx hb dX12_works_72 ?_
        refine lv_topi (fun i_7 ei_7 => ?_)
        have vi_7 : i_7.toInt = (σ.1 73).toInt - 2 := by have h9 := x_sub ei_7 (by omega) (by omega); omega
        refine va_iald hx hb hK hP 49 2 mwd_a49 rfl (x_in (by omega) (by omega)) dX12_works_73 ?_
        refine lv_topi (fun i_8 ei_8 => ?_)
        have ei_8 : i_8 = (σ.2.2.1 72) (Int32.toNatClampNeg i_7) := ei_8
        have gi_8 := PT_N hPT.2 ei_8 (x_cl (by omega))
        refine lv_istore (lv' := [(4, .int i_8), (3, .int i_5), (0, .ref (ad 1)), (1, .int 1), (2, .int 5)]) hx hb dX12_works_74 hl (by decide) rfl (fun ls hl => ?_)
        refine lv_aload_n hx hb dX12_works_76 rfl (lv_at hl 2 rfl) ?_
        refine va_get (D := D) (ci := 11) (v := .ref (ad 57)) (C := RX12) (T := TX12) (N := 85) hx hb hts inX12 hown hK hP 0 mwd_o0 rfl 57 (by decide) fl124 (fun _ h9 => h9) rfl dX12_works_77 ?_
        refine lv_sipush (v := 1760) hx hb dX12_works_80 (by decide) ?_
        refine lv_iload_n hx hb dX12_works_83 rfl (lv_at hl 3 rfl) ?_
        refine lv_imul hx hb dX12_works_84 ?_
        refine lv_topi (fun i_9 ei_9 => ?_)
        obtain rfl : i_9 = 1760 := ei_9.trans (by decide)
        refine lv_iload hx hb dX12_works_85 (lv_at hl 0 rfl) ?_
        refine lv_iadd hx hb dX12_works_87 ?_
        refine lv_topi (fun i_10 ei_10 => ?_)
        have vi_10 : i_10.toInt = 1760 + i_8.toInt := by have h9 := x_add ei_10 (by omega) (by omega); omega
        refine va_lald hx hb hK hP 37 3 mwd_a37 rfl (x_in (by omega) (by omega)) dX12_works_88 ?_
        refine lv_topl (fun j_11 ej_11 => ?_)
        have ej_11 : j_11 = (σ.2.2.2 57) (Int32.toNatClampNeg i_10) := ej_11
        have bj_11 := b_atJ hB57 ej_11
        refine lv_lstore (lv' := [(5, .long j_11), (4, .int i_8), (3, .int i_5), (0, .ref (ad 1)), (1, .int 1), (2, .int 5)]) hx hb dX12_works_89 hl (by decide) rfl (fun ls hl => ?_)
        refine lv_aload_n hx hb dX12_works_91 rfl (lv_at hl 3 rfl) ?_
        refine va_get (D := D) (ci := 11) (v := .ref (ad 58)) (C := RX12) (T := TX12) (N := 85) hx hb hts inX12 hown hK hP 0 mwd_o0 rfl 58 (by decide) fl127 (fun _ h9 => h9) rfl dX12_works_92 ?_
        refine lv_sipush (v := 1760) hx hb dX12_works_95 (by decide) ?_
        refine lv_iload_n hx hb dX12_works_98 rfl (lv_at hl 4 rfl) ?_
        refine lv_imul hx hb dX12_works_99 ?_
        refine lv_topi (fun i_12 ei_12 => ?_)
        obtain rfl : i_12 = 1760 := ei_12.trans (by decide)
        refine lv_iload hx hb dX12_works_100 (lv_at hl 1 rfl) ?_
        refine lv_iadd hx hb dX12_works_102 ?_
        refine lv_topi (fun i_13 ei_13 => ?_)
        have vi_13 : i_13.toInt = 1760 + i_8.toInt := by have h9 := x_add ei_13 (by omega) (by omega); omega
        refine va_lald hx hb hK hP 38 3 mwd_a38 rfl (x_in (by omega) (by omega)) dX12_works_103 ?_
        refine lv_topl (fun j_14 ej_14 => ?_)
        have ej_14 : j_14 = (σ.2.2.2 58) (Int32.toNatClampNeg i_13) := ej_14
        have bj_14 := b_atJ hB58 ej_14
        refine lv_lstore (lv' := [(7, .long j_14), (5, .long j_11), (4, .int i_8), (3, .int i_5), (0, .ref (ad 1)), (1, .int 1), (2, .int 5)]) hx hb dX12_works_104 hl (by decide) rfl (fun ls hl => ?_)
        refine lv_aload_n hx hb dX12_works_106 rfl (lv_at hl 4 rfl) ?_
        refine va_get (D := D) (ci := 11) (v := .ref (ad 57)) (C := RX12) (T := TX12) (N := 85) hx hb hts inX12 hown hK hP 0 mwd_o0 rfl 57 (by decide) fl124 (fun _ h9 => h9) rfl dX12_works_107 ?_
        refine lv_sipush (v := 1760) hx hb dX12_works_110 (by decide) ?_
        refine lv_iload_n hx hb dX12_works_113 rfl (lv_at hl 5 rfl) ?_
        refine lv_imul hx hb dX12_works_114 ?_
        refine lv_topi (fun i_15 ei_15 => ?_)
        obtain rfl : i_15 = 1760 := ei_15.trans (by decide)
        refine lv_iload_n hx hb dX12_works_115 rfl (lv_at hl 3 rfl) ?_
        refine lv_iadd hx hb dX12_works_116 ?_
        refine lv_topi (fun i_16 ei_16 => ?_)
        have vi_16 : i_16.toInt = 1760 + i_5.toInt := by have h9 := x_add ei_16 (by omega) (by omega); omega
        refine va_lald hx hb hK hP 37 3 mwd_a37 rfl (x_in (by omega) (by omega)) dX12_works_117 ?_
        refine lv_topl (fun j_17 ej_17 => ?_)
        have ej_17 : j_17 = (σ.2.2.2 57) (Int32.toNatClampNeg i_16) := ej_17
        have bj_17 := b_atJ hB57 ej_17
        refine lv_lstore (lv' := [(9, .long j_17), (7, .long j_14), (5, .long j_11), (4, .int i_8), (3, .int i_5), (0, .ref (ad 1)), (1, .int 1), (2, .int 5)]) hx hb dX12_works_118 hl (by decide) rfl (fun ls hl => ?_)
        refine lv_aload_n hx hb dX12_works_120 rfl (lv_at hl 5 rfl) ?_
        refine va_get (D := D) (ci := 11) (v := .ref (ad 58)) (C := RX12) (T := TX12) (N := 85) hx hb hts inX12 hown hK hP 0 mwd_o0 rfl 58 (by decide) fl127 (fun _ h9 => h9) rfl dX12_works_121 ?_
        refine lv_sipush (v := 1760) hx hb dX12_works_124 (by decide) ?_
        refine lv_iload_n hx hb dX12_works_127 rfl (lv_at hl 6 rfl) ?_
        refine lv_imul hx hb dX12_works_128 ?_
        refine lv_topi (fun i_18 ei_18 => ?_)
        obtain rfl : i_18 = 1760 := ei_18.trans (by decide)
        refine lv_iload_n hx hb dX12_works_129 rfl (lv_at hl 4 rfl) ?_
        refine lv_iadd hx hb dX12_works_130 ?_
        refine lv_topi (fun i_19 ei_19 => ?_)
        have vi_19 : i_19.toInt = 1760 + i_5.toInt := by have h9 := x_add ei_19 (by omega) (by omega); omega
        refine va_lald hx hb hK hP 38 3 mwd_a38 rfl (x_in (by omega) (by omega)) dX12_works_131 ?_
        refine lv_topl (fun j_20 ej_20 => ?_)
        have ej_20 : j_20 = (σ.2.2.2 58) (Int32.toNatClampNeg i_19) := ej_20
        have bj_20 := b_atJ hB58 ej_20
        refine lv_lstore (lv' := [(11, .long j_20), (9, .long j_17), (7, .long j_14), (5, .long j_11), (4, .int i_8), (3, .int i_5), (0, .ref (ad 1)), (1, .int 1), (2, .int 5)]) hx hb dX12_works_132 hl (by decide) rfl (fun ls hl => ?_)
        refine lv_lload hx hb dX12_works_134 (lv_at hl 3 rfl) ?_
        refine lv_lload hx hb dX12_works_136 (lv_at hl 0 rfl) ?_
        refine lv_lmul hx hb dX12_works_138 ?_
        refine lv_topl (fun j_21 ej_21 => ?_)
        have vj_21 := x_mulB ej_21 (by omega) (by omega) (by omega) (by omega)
        refine lv_lload hx hb dX12_works_139 (lv_at hl 1 rfl) ?_
        refine lv_lload hx hb dX12_works_141 (lv_at hl 2 rfl) ?_
        refine lv_lmul hx hb dX12_works_143 ?_
        refine lv_topl (fun j_22 ej_22 => ?_)
        have vj_22 := x_mulB ej_22 (by omega) (by omega) (by omega) (by omega)
        refine W.lcmp hx hb dX12_works_144 ?_
        refine lv_if_ge (tgt := 152) hx hb dX12_works_145 (by decide) (fun c_23 => ?_) (fun c_23 => ?_)
        · have kc_23 : j_21.toInt ≥ j_22.toInt := by have h9 := x_tri j_21 j_22; (try simp only [Int64.reduceToInt] at h9); rcases h9 with ⟨g1, g2⟩ | ⟨g1, g2⟩ | ⟨g1, g2⟩ <;> first | omega | (exfalso; rw [g1] at c_23; revert c_23; decide)
          refine lv_iconst (v := 0) hx hb dX12_works_152 (by decide) ?_
          refine lv_istore (lv' := [(13, .int 0), (11, .long j_20), (9, .long j_17), (7, .long j_14), (5, .long j_11), (4, .int i_8), (3, .int i_5), (0, .ref (ad 1)), (1, .int 1), (2, .int 5)]) hx hb dX12_works_153 hl (by decide) rfl (fun ls hl => ?_)
          refine lv_aload_n hx hb dX12_works_155 rfl (lv_at hl 7 rfl) ?_
          refine lv_iconst (v := 0) hx hb dX12_works_156 (by decide) ?_
          refine va_put (D := D) (ci := 11) (v := .int 0) (ty := .boolean) (C := RX12) (T := TX12) (N := 85) hx hb hts inX12 tyX12 tyX12_ok nmX12 hown hK hP hD hS 0 mwd_o0 rfl 44 (by decide) fl384 (fun _ h9 => h9) rfl (by decide +kernel) rfl rfl (Nat.le_of_ble_eq_true rfl) dX12_works_157 (fun H locs hP hD hS => ?_)
          have hP : va_P D vwCl (mwd y ad zw (sI σ 44 0)) H := x_trP hP mwd_p0_44
          have hD : va_D A (mwd y ad zw (sI σ 44 0)) := x_trD hD mwd_p0_44
          refine lv_iload_n hx hb dX12_works_160 rfl (lv_at hl 9 rfl) ?_
          refine lv_tableOut (tgt := 252) hx hb dX12_works_161 (by decide) (by decide) ?_
          refine lv_aload_n hx hb dX12_works_252 rfl (lv_at hl 7 rfl) ?_
          refine va_get (D := D) (ci := 11) (v := .int 0) (C := RX12) (T := TX12) (N := 85) hx hb hts inX12 hown hK hP 0 mwd_o0 rfl 44 (by decide) fl384 (fun _ h9 => h9) rfl dX12_works_253 ?_
          refine lv_if_eq (tgt := 268) hx hb dX12_works_256 (by decide) (fun c_25 => ?_) (fun c_25 => ?_)
          · refine lv_aload_n hx hb dX12_works_268 rfl (lv_at hl 7 rfl) ?_
            refine va_get (D := D) (ci := 11) (v := .ref (ad 63)) (C := RX12) (T := TX12) (N := 85) hx hb hts inX12 hown hK hP 0 mwd_o0 rfl 63 (by decide) fl142 (fun _ h9 => h9) rfl dX12_works_269 ?_
            refine lv_iload_n hx hb dX12_works_272 rfl (lv_at hl 8 rfl) ?_
            refine lv_dup2_11 hx hb dX12_works_273 rfl rfl ?_
            refine va_iald hx hb hK hP 43 2 mwd_a43 rfl (x_in (by decide) (by decide)) dX12_works_274 ?_
            refine lv_topi (fun i_26 ei_26 => ?_)
            have ei_26 : i_26 = (σ.2.2.1 63) (Int32.toNatClampNeg 1) := ei_26
            have gi_26 : i_26.toInt = (σ.2.2.1 63 1).toInt := by rw [ei_26]; rfl
            have bi_26 := b_at hB63 ei_26
            refine lv_iconst (v := 1) hx hb dX12_works_275 (by decide) ?_
            refine lv_iadd hx hb dX12_works_276 ?_
            refine lv_topi (fun i_27 ei_27 => ?_)
            have vi_27 : i_27.toInt = i_26.toInt + 1 := by have h9 := x_add ei_27 (by omega) (by omega); omega
            refine va_iast hx hb hK hP hD hS 43 2 mwd_a43 rfl (x_in (by decide) (by decide)) dX12_works_277 (fun H locs hP hD hS => ?_)
            obtain ⟨f_28, ef_28⟩ : ∃ z9 : Nat → Int32, z9 = (upd (σ.2.2.1 63) (Int32.toNatClampNeg 1) i_27) := ⟨_, rfl⟩
            have hP : va_P D vwCl (mwd y ad zw (tI (sI σ 44 0) 63 f_28)) H := by rw [ef_28]; exact x_trP hP mwd_s43
            have hD : va_D A (mwd y ad zw (tI (sI σ 44 0) 63 f_28)) := by rw [ef_28]; exact x_trD hD mwd_s43
            have hvf_28 : bI f_28 0 1000 := by rw [ef_28]; exact b_upd hB63 (by omega) (by omega)
            have sf_28 : (f_28 1).toInt = i_27.toInt := by rw [ef_28]; exact congrArg Int32.toInt (x_upd_same _ 1 _)
            refine lv_aload_n hx hb dX12_works_278 rfl (lv_at hl 7 rfl) ?_
            refine lv_dup hx hb dX12_works_279 rfl ?_
            refine va_get (D := D) (ci := 11) (v := .int (σ.1 73)) (C := RX12) (T := TX12) (N := 85) hx hb hts inX12 hown hK hP 0 mwd_o0 rfl 73 (by decide) fl421 (fun _ h9 => h9) rfl dX12_works_280 ?_
            refine lv_iload_n hx hb dX12_works_283 rfl (lv_at hl 9 rfl) ?_
            refine lv_bipush (v := 7) hx hb dX12_works_284 (by decide) ?_
            refine lv_icmp_ne (tgt := 293) hx hb dX12_works_286 (by decide) (fun c_29 => ?_) (fun c_29 => ?_)
            · refine lv_iconst (v := 2) hx hb dX12_works_293 (by decide) ?_
              refine lv_isub hx hb dX12_works_294 ?_
              refine lv_topi (fun i_30 ei_30 => ?_)
              have vi_30 : i_30.toInt = (σ.1 73).toInt - 2 := by have h9 := x_sub ei_30 (by omega) (by omega); omega
              refine va_put (D := D) (ci := 11) (v := .int i_30) (ty := .int) (C := RX12) (T := TX12) (N := 85) hx hb hts inX12 tyX12 tyX12_ok nmX12 hown hK hP hD hS 0 mwd_o0 rfl 73 (by decide) fl421 (fun _ h9 => h9) rfl (by decide +kernel) rfl rfl (Nat.le_of_ble_eq_true rfl) dX12_works_295 (fun H locs hP hD hS => ?_)
              have hP : va_P D vwCl (mwd y ad zw (sI (tI (sI σ 44 0) 63 f_28) 73 i_30)) H := x_trP hP mwd_p0_73
              have hD : va_D A (mwd y ad zw (sI (tI (sI σ 44 0) 63 f_28) 73 i_30)) := x_trD hD mwd_p0_73
              refine lv_iload_n hx hb dX12_works_298 rfl (lv_at hl 9 rfl) ?_
              refine lv_iconst (v := 4) hx hb dX12_works_299 (by decide) ?_
              refine lv_icmp_gt (tgt := 340) hx hb dX12_works_300 (by decide) (fun c_31 => ?_) (fun c_31 => ?_)
              · refine lv_iload_n hx hb dX12_works_340 rfl (lv_at hl 9 rfl) ?_
                refine lv_bipush (v := 7) hx hb dX12_works_341 (by decide) ?_
                refine lv_icmp_ne (tgt := 394) hx hb dX12_works_343 (by decide) (fun c_32 => ?_) (fun c_32 => ?_)
                · refine lv_iload_n hx hb dX12_works_394 rfl (lv_at hl 9 rfl) ?_
                  refine lv_iconst (v := 5) hx hb dX12_works_395 (by decide) ?_
                  refine lv_icmp_eq (tgt := 405) hx hb dX12_works_396 (by decide) (fun c_33 => ?_) (fun c_33 => ?_)
                  · refine lv_aload_n hx hb dX12_works_405 rfl (lv_at hl 7 rfl) ?_
                    refine lv_iload_n hx hb dX12_works_406 rfl (lv_at hl 8 rfl) ?_
                    refine lv_lload hx hb dX12_works_407 (lv_at hl 4 rfl) ?_
                    refine lv_lload hx hb dX12_works_409 (lv_at hl 3 rfl) ?_
                    refine lv_lload hx hb dX12_works_411 (lv_at hl 2 rfl) ?_
                    refine lv_lload hx hb dX12_works_413 (lv_at hl 1 rfl) ?_
                    refine x_callvW (va_runV (As := [.int 1, .long j_11, .long j_14, .long j_17, .long j_20]) (rest := []) ⟨hx, hb, hml, hown, hts⟩ (q_nears1 l D y H.size ad zw (sI (tI (sI σ 44 0) 63 f_28) 73 i_30) j_11 j_14 j_17 j_20 (by first | omega | decide) (by first | omega | decide) (by first | omega | decide) (by first | omega | decide) (by first | omega | decide) (by first | omega | decide) (by first | omega | decide) (by first | omega | decide)) (cwV 5 hts g_q_works1_5_0 rfl rfl rfl (by decide +kernel) ⟨Nat.le_of_ble_eq_true rfl, Nat.le_of_ble_eq_true rfl⟩) (x_preV (q := (RX12, TX12, 85)) hK hP hD (ci := 11) (q0 := 0) rfl mwd_o0) rfl rfl hl.1 rfl (lv_room (Nat.le_of_ble_eq_true rfl)) dX12_works_415 ⟨Nat.le_of_ble_eq_true rfl, Nat.le_of_ble_eq_true rfl⟩) hP hD hS hA (fun u H locs hw hP hD hS => ?_)
                    obtain ⟨f_34, n_35, j_36, j_37, n_38, j_39, j_40⟩ := u
                    try dsimp only at hw
                    have hP : va_P D vwCl (mwd y ad zw (sJ (sJ (sI (sJ (sJ (sI (tI (sI (tI (sI σ 44 0) 63 f_28) 73 i_30) 66 f_34) 44 n_35) 42 j_36) 43 j_37) 68 n_38) 69 j_39) 70 j_40)) H := hP
                    have hD : va_D A (mwd y ad zw (sJ (sJ (sI (sJ (sJ (sI (tI (sI (tI (sI σ 44 0) 63 f_28) 73 i_30) 66 f_34) 44 n_35) 42 j_36) 43 j_37) 68 n_38) 69 j_39) 70 j_40)) := hD
                    have hw : True := hw
                    refine lv_iload_n hx hb dX12_works_418 rfl (lv_at hl 9 rfl) ?_
                    refine lv_iconst (v := 5) hx hb dX12_works_419 (by decide) ?_
                    refine lv_icmp_ne (tgt := 445) hx hb dX12_works_420 (by decide) (fun c_41 => ?_) (fun c_41 => ?_)
                    · exact absurd (by decide) c_41
                    · refine lv_lload hx hb dX12_works_423 (lv_at hl 2 rfl) ?_
                      refine lv_lload hx hb dX12_works_425 (lv_at hl 3 rfl) ?_
                      refine lv_lmul hx hb dX12_works_427 ?_
                      refine lv_topl (fun j_42 ej_42 => ?_)
                      have vj_42 := x_mulB ej_42 (by omega) (by omega) (by omega) (by omega)
                      refine lv_lload hx hb dX12_works_428 (lv_at hl 4 rfl) ?_
                      refine lv_lload hx hb dX12_works_430 (lv_at hl 1 rfl) ?_
                      refine lv_lmul hx hb dX12_works_432 ?_
                      refine lv_topl (fun j_43 ej_43 => ?_)
                      have vj_43 := x_mulB ej_43 (by omega) (by omega) (by omega) (by omega)
                      refine W.lcmp hx hb dX12_works_433 ?_
                      refine lv_if_ge (tgt := 441) hx hb dX12_works_434 (by decide) (fun c_44 => ?_) (fun c_44 => ?_)
                      · have kc_44 : j_42.toInt ≥ j_43.toInt := by have h9 := x_tri j_42 j_43; (try simp only [Int64.reduceToInt] at h9); rcases h9 with ⟨g1, g2⟩ | ⟨g1, g2⟩ | ⟨g1, g2⟩ <;> first | omega | (exfalso; rw [g1] at c_44; revert c_44; decide)
                        refine lv_iconst (v := 0) hx hb dX12_works_441 (by decide) ?_
                        refine lv_goto (tgt := 464) hx hb dX12_works_442 (by decide) ?_
                        refine lv_istore (lv' := [(14, .int 0), (13, .int 0), (11, .long j_20), (9, .long j_17), (7, .long j_14), (5, .long j_11), (4, .int i_8), (3, .int i_5), (0, .ref (ad 1)), (1, .int 1), (2, .int 5)]) hx hb dX12_works_464 hl (by decide) rfl (fun ls hl => ?_)
                        refine lv_aload_n hx hb dX12_works_466 rfl (lv_at hl 8 rfl) ?_
                        refine lv_iload_n hx hb dX12_works_467 rfl (lv_at hl 9 rfl) ?_
                        refine lv_iload hx hb dX12_works_468 (lv_at hl 0 rfl) ?_
                        refine lv_if_eq (tgt := 478) hx hb dX12_works_470 (by decide) (fun c_45 => ?_) (fun c_45 => ?_)
                        · refine lv_lload hx hb dX12_works_478 (lv_at hl 5 rfl) ?_
                          refine lv_iload hx hb dX12_works_480 (lv_at hl 0 rfl) ?_
                          refine lv_if_eq (tgt := 490) hx hb dX12_works_482 (by decide) (fun c_46 => ?_) (fun c_46 => ?_)
                          · refine lv_lload hx hb dX12_works_490 (lv_at hl 4 rfl) ?_
                            refine lv_iload_n hx hb dX12_works_492 rfl (lv_at hl 10 rfl) ?_
                            refine lv_iload hx hb dX12_works_493 (lv_at hl 0 rfl) ?_
                            refine lv_if_eq (tgt := 502) hx hb dX12_works_495 (by decide) (fun c_47 => ?_) (fun c_47 => ?_)
                            · refine lv_iload hx hb dX12_works_502 (lv_at hl 6 rfl) ?_
                              refine lv_iload hx hb dX12_works_504 (lv_at hl 0 rfl) ?_
                              refine lv_if_eq (tgt := 513) hx hb dX12_works_506 (by decide) (fun c_48 => ?_) (fun c_48 => ?_)
                              · refine lv_iload hx hb dX12_works_513 (lv_at hl 6 rfl) ?_
                                refine x_callvW (va_runV (As := [.int 1, .long j_11, .long j_14, .int 5, .int i_8, .int i_8]) (rest := []) ⟨hx, hb, hml, hown, hts⟩ (q_lays1 l D y H.size ad zw (sJ (sJ (sI (sJ (sJ (sI (tI (sI (tI (sI σ 44 0) 63 f_28) 73 i_30) 66 f_34) 44 n_35) 42 j_36) 43 j_37) 68 n_38) 69 j_39) 70 j_40) j_11 j_14 5 i_8 i_8 (by first | omega | decide) (by first | omega | decide) (by first | omega | decide) (by first | omega | decide) hop (fun _ => by omega) (show 0 ≤ ((σ.2.2.1 62) 1).toInt from by first | omega | decide) (show ((σ.2.2.1 62) 1).toInt < 1760 from by first | omega | decide) hB57 hB58 hB62) (cwV 6 hts g_q_works1_5_1 rfl rfl rfl (by decide +kernel) ⟨Nat.le_of_ble_eq_true rfl, Nat.le_of_ble_eq_true rfl⟩) (x_preV (q := (RX12, TX12, 85)) hK hP hD (ci := 11) (q0 := 0) rfl mwd_o0) rfl rfl hl.1 rfl (lv_room (Nat.le_of_ble_eq_true rfl)) dX12_works_515 ⟨Nat.le_of_ble_eq_true rfl, Nat.le_of_ble_eq_true rfl⟩) hP hD hS hA (fun u H locs hw hP hD hS => ?_)
                                obtain ⟨f_49, f_50, f_51, f_52, f_53, f_54⟩ := u
                                try dsimp only at hw
                                have hP : va_P D vwCl (mwd y ad zw (tI (tI (tI (tI (tJ (tJ (sJ (sJ (sI (sJ (sJ (sI (tI (sI (tI (sI σ 44 0) 63 f_28) 73 i_30) 66 f_34) 44 n_35) 42 j_36) 43 j_37) 68 n_38) 69 j_39) 70 j_40) 57 f_49) 58 f_50) 59 f_51) 60 f_52) 61 f_53) 62 f_54)) H := hP
                                have hD : va_D A (mwd y ad zw (tI (tI (tI (tI (tJ (tJ (sJ (sJ (sI (sJ (sJ (sI (tI (sI (tI (sI σ 44 0) 63 f_28) 73 i_30) 66 f_34) 44 n_35) 42 j_36) 43 j_37) 68 n_38) 69 j_39) 70 j_40) 57 f_49) 58 f_50) 59 f_51) 60 f_52) 61 f_53) 62 f_54)) := hD
                                have hw : (opc f_51 f_52 f_53 ∧ (f_54 1).toInt = ((σ.2.2.1 62) 1).toInt + 1 ∧ f_54 0 = (σ.2.2.1 62) 0) ∧ bJ f_49 (-1000000000) 1000000000 ∧ bJ f_50 0 1000000000 ∧ bI f_54 0 1760 := hw
                                obtain ⟨hw, hg_55, hg_56, hg_57⟩ := hw
                                obtain ⟨ho9, hl9, hl8⟩ := hw
                                refine lv_aload_n hx hb dX12_works_518 rfl (lv_at hl 8 rfl) ?_
                                refine va_get (D := D) (ci := 11) (v := .ref (ad 72)) (C := RX12) (T := TX12) (N := 85) hx hb hts inX12 hown hK hP 0 mwd_o0 rfl 72 (by decide) fl160 (fun _ h9 => h9) rfl dX12_works_519 ?_
                                refine lv_aload_n hx hb dX12_works_522 rfl (lv_at hl 8 rfl) ?_
                                refine va_get (D := D) (ci := 11) (v := .int i_30) (C := RX12) (T := TX12) (N := 85) hx hb hts inX12 hown hK hP 0 mwd_o0 rfl 73 (by decide) fl421 (fun _ h9 => h9) rfl dX12_works_523 ?_
                                refine lv_aload_n hx hb dX12_works_526 rfl (lv_at hl 8 rfl) ?_
                                refine va_get (D := D) (ci := 11) (v := .ref (ad 62)) (C := RX12) (T := TX12) (N := 85) hx hb hts inX12 hown hK hP 0 mwd_o0 rfl 62 (by decide) fl139 (fun _ h9 => h9) rfl dX12_works_527 ?_
                                refine lv_iload_n hx hb dX12_works_530 rfl (lv_at hl 9 rfl) ?_
                                refine va_iald hx hb hK hP 42 2 mwd_a42 rfl (x_in (by decide) (by decide)) dX12_works_531 ?_
                                refine lv_topi (fun i_58 ei_58 => ?_)
                                have ei_58 : i_58 = f_54 (Int32.toNatClampNeg 1) := ei_58
                                have gi_58 : i_58.toInt = (f_54 1).toInt := by rw [ei_58]; rfl
                                have bi_58 := b_at hg_57 ei_58
                                refine lv_iconst (v := 1) hx hb dX12_works_532 (by decide) ?_
                                refine lv_isub hx hb dX12_works_533 ?_
                                refine lv_topi (fun i_59 ei_59 => ?_)
                                have vi_59 : i_59.toInt = i_58.toInt - 1 := by have h9 := x_sub ei_59 (by omega) (by omega); omega
                                refine va_iast hx hb hK hP hD hS 49 2 mwd_a49 rfl (x_in (by omega) (by omega)) dX12_works_534 (fun H locs hP hD hS => ?_)
                                obtain ⟨f_60, ef_60⟩ : ∃ z9 : Nat → Int32, z9 = (upd (σ.2.2.1 72) (Int32.toNatClampNeg i_30) i_59) := ⟨_, rfl⟩
                                have hP : va_P D vwCl (mwd y ad zw (tI (tI (tI (tI (tI (tJ (tJ (sJ (sJ (sI (sJ (sJ (sI (tI (sI (tI (sI σ 44 0) 63 f_28) 73 i_30) 66 f_34) 44 n_35) 42 j_36) 43 j_37) 68 n_38) 69 j_39) 70 j_40) 57 f_49) 58 f_50) 59 f_51) 60 f_52) 61 f_53) 62 f_54) 72 f_60)) H := by rw [ef_60]; exact x_trP hP mwd_s49
                                have hD : va_D A (mwd y ad zw (tI (tI (tI (tI (tI (tJ (tJ (sJ (sJ (sI (sJ (sJ (sI (tI (sI (tI (sI σ 44 0) 63 f_28) 73 i_30) 66 f_34) 44 n_35) 42 j_36) 43 j_37) 68 n_38) 69 j_39) 70 j_40) 57 f_49) 58 f_50) 59 f_51) 60 f_52) 61 f_53) 62 f_54) 72 f_60)) := by rw [ef_60]; exact x_trD hD mwd_s49
                                have pf_60 : PT (true :: T) f_60 (f_54 1).toInt := by rw [ef_60]; exact PT_pushN (PT_mono (by omega) hPT.2.2) (x_cl (by omega)) (by omega) (by omega)
                                refine lv_goto (tgt := 626) hx hb dX12_works_535 (by decide) ?_
                                refine lv_aload_n hx hb dX12_works_626 rfl (lv_at hl 8 rfl) ?_
                                refine lv_dup hx hb dX12_works_627 rfl ?_
                                refine va_get (D := D) (ci := 11) (v := .int i_30) (C := RX12) (T := TX12) (N := 85) hx hb hts inX12 hown hK hP 0 mwd_o0 rfl 73 (by decide) fl421 (fun _ h9 => h9) rfl dX12_works_628 ?_
                                refine lv_iconst (v := 1) hx hb dX12_works_631 (by decide) ?_
                                refine lv_iadd hx hb dX12_works_632 ?_
                                refine lv_topi (fun i_61 ei_61 => ?_)
                                have vi_61 : i_61.toInt = i_30.toInt + 1 := by have h9 := x_add ei_61 (by omega) (by omega); omega
                                refine va_put (D := D) (ci := 11) (v := .int i_61) (ty := .int) (C := RX12) (T := TX12) (N := 85) hx hb hts inX12 tyX12 tyX12_ok nmX12 hown hK hP hD hS 0 mwd_o0 rfl 73 (by decide) fl421 (fun _ h9 => h9) rfl (by decide +kernel) rfl rfl (Nat.le_of_ble_eq_true rfl) dX12_works_633 (fun H locs hP hD hS => ?_)
                                have hP : va_P D vwCl (mwd y ad zw (sI (tI (tI (tI (tI (tI (tJ (tJ (sJ (sJ (sI (sJ (sJ (sI (tI (sI (tI (sI σ 44 0) 63 f_28) 73 i_30) 66 f_34) 44 n_35) 42 j_36) 43 j_37) 68 n_38) 69 j_39) 70 j_40) 57 f_49) 58 f_50) 59 f_51) 60 f_52) 61 f_53) 62 f_54) 72 f_60) 73 i_61)) H := x_trP hP mwd_p0_73
                                have hD : va_D A (mwd y ad zw (sI (tI (tI (tI (tI (tI (tJ (tJ (sJ (sJ (sI (sJ (sJ (sI (tI (sI (tI (sI σ 44 0) 63 f_28) 73 i_30) 66 f_34) 44 n_35) 42 j_36) 43 j_37) 68 n_38) 69 j_39) 70 j_40) 57 f_49) 58 f_50) 59 f_51) 60 f_52) 61 f_53) 62 f_54) 72 f_60) 73 i_61)) := x_trD hD mwd_p0_73
                                refine lv_iconst (v := 1) hx hb dX12_works_636 (by decide) ?_
                                have hP : va_P D vwCl (mwd y ad zw (tI (tI (tI (tI (tJ (tJ (sJ (sJ (sI (sJ (sJ (sI (tI (tI (tI (tI (sI σ 73 i_61) 72 f_60) 63 f_28) 67 (σ.2.2.1 67)) 66 f_34) 44 n_35) 42 j_36) 43 j_37) 68 n_38) 69 j_39) 70 j_40) 57 f_49) 58 f_50) 59 f_51) 60 f_52) 61 f_53) 62 f_54)) H := hP
                                have hD : va_D A (mwd y ad zw (tI (tI (tI (tI (tJ (tJ (sJ (sJ (sI (sJ (sJ (sI (tI (tI (tI (tI (sI σ 73 i_61) 72 f_60) 63 f_28) 67 (σ.2.2.1 67)) 66 f_34) 44 n_35) 42 j_36) 43 j_37) 68 n_38) 69 j_39) 70 j_40) 57 f_49) 58 f_50) 59 f_51) 60 f_52) 61 f_53) 62 f_54)) := hD
                                exact x_zretW (v := 1) (u := (i_61, f_60, f_28, (σ.2.2.1 67), f_34, n_35, j_36, j_37, n_38, j_39, j_40, f_49, f_50, f_51, f_52, f_53, f_54)) hx hb hr hQ rfl (by (try dsimp only); exact ⟨⟨Or.inr ⟨by omega, pf_60, by omega, rfl⟩, ho9, by omega, by omega, hl8⟩, hg_55, hg_56, hg_57, hvf_28⟩) hP hD hK hS dX12_works_637 hlocks
                              · exact absurd (by decide) c_48
                            · exact absurd (by decide) c_47
                          · exact absurd (by decide) c_46
                        · exact absurd (by decide) c_45
                      · have kc_44 : j_42.toInt < j_43.toInt := by have h9 := x_tri j_42 j_43; (try simp only [Int64.reduceToInt] at h9); rcases h9 with ⟨g1, g2⟩ | ⟨g1, g2⟩ | ⟨g1, g2⟩ <;> first | omega | (exfalso; rw [g1] at c_44; revert c_44; decide)
                        refine lv_iconst (v := 1) hx hb dX12_works_437 (by decide) ?_
                        refine lv_goto (tgt := 464) hx hb dX12_works_438 (by decide) ?_
                        refine lv_istore (lv' := [(14, .int 1), (13, .int 0), (11, .long j_20), (9, .long j_17), (7, .long j_14), (5, .long j_11), (4, .int i_8), (3, .int i_5), (0, .ref (ad 1)), (1, .int 1), (2, .int 5)]) hx hb dX12_works_464 hl (by decide) rfl (fun ls hl => ?_)
                        refine lv_aload_n hx hb dX12_works_466 rfl (lv_at hl 8 rfl) ?_
                        refine lv_iload_n hx hb dX12_works_467 rfl (lv_at hl 9 rfl) ?_
                        refine lv_iload hx hb dX12_works_468 (lv_at hl 0 rfl) ?_
                        refine lv_if_eq (tgt := 478) hx hb dX12_works_470 (by decide) (fun c_62 => ?_) (fun c_62 => ?_)
                        · exact absurd c_62 (by decide)
                        · refine lv_lload hx hb dX12_works_473 (lv_at hl 3 rfl) ?_
                          refine lv_goto (tgt := 480) hx hb dX12_works_475 (by decide) ?_
                          refine lv_iload hx hb dX12_works_480 (lv_at hl 0 rfl) ?_
                          refine lv_if_eq (tgt := 490) hx hb dX12_works_482 (by decide) (fun c_63 => ?_) (fun c_63 => ?_)
                          · exact absurd c_63 (by decide)
                          · refine lv_lload hx hb dX12_works_485 (lv_at hl 2 rfl) ?_
                            refine lv_goto (tgt := 492) hx hb dX12_works_487 (by decide) ?_
                            refine lv_iload_n hx hb dX12_works_492 rfl (lv_at hl 10 rfl) ?_
                            refine lv_iload hx hb dX12_works_493 (lv_at hl 0 rfl) ?_
                            refine lv_if_eq (tgt := 502) hx hb dX12_works_495 (by decide) (fun c_64 => ?_) (fun c_64 => ?_)
                            · exact absurd c_64 (by decide)
                            · refine lv_iload_n hx hb dX12_works_498 rfl (lv_at hl 7 rfl) ?_
                              refine lv_goto (tgt := 504) hx hb dX12_works_499 (by decide) ?_
                              refine lv_iload hx hb dX12_works_504 (lv_at hl 0 rfl) ?_
                              refine lv_if_eq (tgt := 513) hx hb dX12_works_506 (by decide) (fun c_65 => ?_) (fun c_65 => ?_)
                              · exact absurd c_65 (by decide)
                              · refine lv_iload_n hx hb dX12_works_509 rfl (lv_at hl 7 rfl) ?_
                                refine lv_goto (tgt := 515) hx hb dX12_works_510 (by decide) ?_
                                refine x_callvW (va_runV (As := [.int 1, .long j_17, .long j_20, .int 5, .int i_5, .int i_5]) (rest := []) ⟨hx, hb, hml, hown, hts⟩ (q_lays1 l D y H.size ad zw (sJ (sJ (sI (sJ (sJ (sI (tI (sI (tI (sI σ 44 0) 63 f_28) 73 i_30) 66 f_34) 44 n_35) 42 j_36) 43 j_37) 68 n_38) 69 j_39) 70 j_40) j_17 j_20 5 i_5 i_5 (by first | omega | decide) (by first | omega | decide) (by first | omega | decide) (by first | omega | decide) hop (fun _ => by omega) (show 0 ≤ ((σ.2.2.1 62) 1).toInt from by first | omega | decide) (show ((σ.2.2.1 62) 1).toInt < 1760 from by first | omega | decide) hB57 hB58 hB62) (cwV 6 hts g_q_works1_5_1 rfl rfl rfl (by decide +kernel) ⟨Nat.le_of_ble_eq_true rfl, Nat.le_of_ble_eq_true rfl⟩) (x_preV (q := (RX12, TX12, 85)) hK hP hD (ci := 11) (q0 := 0) rfl mwd_o0) rfl rfl hl.1 rfl (lv_room (Nat.le_of_ble_eq_true rfl)) dX12_works_515 ⟨Nat.le_of_ble_eq_true rfl, Nat.le_of_ble_eq_true rfl⟩) hP hD hS hA (fun u H locs hw hP hD hS => ?_)
                                obtain ⟨f_66, f_67, f_68, f_69, f_70, f_71⟩ := u
                                try dsimp only at hw
                                have hP : va_P D vwCl (mwd y ad zw (tI (tI (tI (tI (tJ (tJ (sJ (sJ (sI (sJ (sJ (sI (tI (sI (tI (sI σ 44 0) 63 f_28) 73 i_30) 66 f_34) 44 n_35) 42 j_36) 43 j_37) 68 n_38) 69 j_39) 70 j_40) 57 f_66) 58 f_67) 59 f_68) 60 f_69) 61 f_70) 62 f_71)) H := hP
                                have hD : va_D A (mwd y ad zw (tI (tI (tI (tI (tJ (tJ (sJ (sJ (sI (sJ (sJ (sI (tI (sI (tI (sI σ 44 0) 63 f_28) 73 i_30) 66 f_34) 44 n_35) 42 j_36) 43 j_37) 68 n_38) 69 j_39) 70 j_40) 57 f_66) 58 f_67) 59 f_68) 60 f_69) 61 f_70) 62 f_71)) := hD
                                have hw : (opc f_68 f_69 f_70 ∧ (f_71 1).toInt = ((σ.2.2.1 62) 1).toInt + 1 ∧ f_71 0 = (σ.2.2.1 62) 0) ∧ bJ f_66 (-1000000000) 1000000000 ∧ bJ f_67 0 1000000000 ∧ bI f_71 0 1760 := hw
                                obtain ⟨hw, hg_72, hg_73, hg_74⟩ := hw
                                obtain ⟨ho9, hl9, hl8⟩ := hw
                                refine lv_aload_n hx hb dX12_works_518 rfl (lv_at hl 8 rfl) ?_
                                refine va_get (D := D) (ci := 11) (v := .ref (ad 72)) (C := RX12) (T := TX12) (N := 85) hx hb hts inX12 hown hK hP 0 mwd_o0 rfl 72 (by decide) fl160 (fun _ h9 => h9) rfl dX12_works_519 ?_
                                refine lv_aload_n hx hb dX12_works_522 rfl (lv_at hl 8 rfl) ?_
                                refine va_get (D := D) (ci := 11) (v := .int i_30) (C := RX12) (T := TX12) (N := 85) hx hb hts inX12 hown hK hP 0 mwd_o0 rfl 73 (by decide) fl421 (fun _ h9 => h9) rfl dX12_works_523 ?_
                                refine lv_aload_n hx hb dX12_works_526 rfl (lv_at hl 8 rfl) ?_
                                refine va_get (D := D) (ci := 11) (v := .ref (ad 62)) (C := RX12) (T := TX12) (N := 85) hx hb hts inX12 hown hK hP 0 mwd_o0 rfl 62 (by decide) fl139 (fun _ h9 => h9) rfl dX12_works_527 ?_
                                refine lv_iload_n hx hb dX12_works_530 rfl (lv_at hl 9 rfl) ?_
                                refine va_iald hx hb hK hP 42 2 mwd_a42 rfl (x_in (by decide) (by decide)) dX12_works_531 ?_
                                refine lv_topi (fun i_75 ei_75 => ?_)
                                have ei_75 : i_75 = f_71 (Int32.toNatClampNeg 1) := ei_75
                                have gi_75 : i_75.toInt = (f_71 1).toInt := by rw [ei_75]; rfl
                                have bi_75 := b_at hg_74 ei_75
                                refine lv_iconst (v := 1) hx hb dX12_works_532 (by decide) ?_
                                refine lv_isub hx hb dX12_works_533 ?_
                                refine lv_topi (fun i_76 ei_76 => ?_)
                                have vi_76 : i_76.toInt = i_75.toInt - 1 := by have h9 := x_sub ei_76 (by omega) (by omega); omega
                                refine va_iast hx hb hK hP hD hS 49 2 mwd_a49 rfl (x_in (by omega) (by omega)) dX12_works_534 (fun H locs hP hD hS => ?_)
                                obtain ⟨f_77, ef_77⟩ : ∃ z9 : Nat → Int32, z9 = (upd (σ.2.2.1 72) (Int32.toNatClampNeg i_30) i_76) := ⟨_, rfl⟩
                                have hP : va_P D vwCl (mwd y ad zw (tI (tI (tI (tI (tI (tJ (tJ (sJ (sJ (sI (sJ (sJ (sI (tI (sI (tI (sI σ 44 0) 63 f_28) 73 i_30) 66 f_34) 44 n_35) 42 j_36) 43 j_37) 68 n_38) 69 j_39) 70 j_40) 57 f_66) 58 f_67) 59 f_68) 60 f_69) 61 f_70) 62 f_71) 72 f_77)) H := by rw [ef_77]; exact x_trP hP mwd_s49
                                have hD : va_D A (mwd y ad zw (tI (tI (tI (tI (tI (tJ (tJ (sJ (sJ (sI (sJ (sJ (sI (tI (sI (tI (sI σ 44 0) 63 f_28) 73 i_30) 66 f_34) 44 n_35) 42 j_36) 43 j_37) 68 n_38) 69 j_39) 70 j_40) 57 f_66) 58 f_67) 59 f_68) 60 f_69) 61 f_70) 62 f_71) 72 f_77)) := by rw [ef_77]; exact x_trD hD mwd_s49
                                have pf_77 : PT (true :: T) f_77 (f_71 1).toInt := by rw [ef_77]; exact PT_pushN (PT_mono (by omega) hPT.2.2) (x_cl (by omega)) (by omega) (by omega)
                                refine lv_goto (tgt := 626) hx hb dX12_works_535 (by decide) ?_
                                refine lv_aload_n hx hb dX12_works_626 rfl (lv_at hl 8 rfl) ?_
                                refine lv_dup hx hb dX12_works_627 rfl ?_
                                refine va_get (D := D) (ci := 11) (v := .int i_30) (C := RX12) (T := TX12) (N := 85) hx hb hts inX12 hown hK hP 0 mwd_o0 rfl 73 (by decide) fl421 (fun _ h9 => h9) rfl dX12_works_628 ?_
                                refine lv_iconst (v := 1) hx hb dX12_works_631 (by decide) ?_
                                refine lv_iadd hx hb dX12_works_632 ?_
                                refine lv_topi (fun i_78 ei_78 => ?_)
                                have vi_78 : i_78.toInt = i_30.toInt + 1 := by have h9 := x_add ei_78 (by omega) (by omega); omega
                                refine va_put (D := D) (ci := 11) (v := .int i_78) (ty := .int) (C := RX12) (T := TX12) (N := 85) hx hb hts inX12 tyX12 tyX12_ok nmX12 hown hK hP hD hS 0 mwd_o0 rfl 73 (by decide) fl421 (fun _ h9 => h9) rfl (by decide +kernel) rfl rfl (Nat.le_of_ble_eq_true rfl) dX12_works_633 (fun H locs hP hD hS => ?_)
                                have hP : va_P D vwCl (mwd y ad zw (sI (tI (tI (tI (tI (tI (tJ (tJ (sJ (sJ (sI (sJ (sJ (sI (tI (sI (tI (sI σ 44 0) 63 f_28) 73 i_30) 66 f_34) 44 n_35) 42 j_36) 43 j_37) 68 n_38) 69 j_39) 70 j_40) 57 f_66) 58 f_67) 59 f_68) 60 f_69) 61 f_70) 62 f_71) 72 f_77) 73 i_78)) H := x_trP hP mwd_p0_73
                                have hD : va_D A (mwd y ad zw (sI (tI (tI (tI (tI (tI (tJ (tJ (sJ (sJ (sI (sJ (sJ (sI (tI (sI (tI (sI σ 44 0) 63 f_28) 73 i_30) 66 f_34) 44 n_35) 42 j_36) 43 j_37) 68 n_38) 69 j_39) 70 j_40) 57 f_66) 58 f_67) 59 f_68) 60 f_69) 61 f_70) 62 f_71) 72 f_77) 73 i_78)) := x_trD hD mwd_p0_73
                                refine lv_iconst (v := 1) hx hb dX12_works_636 (by decide) ?_
                                have hP : va_P D vwCl (mwd y ad zw (tI (tI (tI (tI (tJ (tJ (sJ (sJ (sI (sJ (sJ (sI (tI (tI (tI (tI (sI σ 73 i_78) 72 f_77) 63 f_28) 67 (σ.2.2.1 67)) 66 f_34) 44 n_35) 42 j_36) 43 j_37) 68 n_38) 69 j_39) 70 j_40) 57 f_66) 58 f_67) 59 f_68) 60 f_69) 61 f_70) 62 f_71)) H := hP
                                have hD : va_D A (mwd y ad zw (tI (tI (tI (tI (tJ (tJ (sJ (sJ (sI (sJ (sJ (sI (tI (tI (tI (tI (sI σ 73 i_78) 72 f_77) 63 f_28) 67 (σ.2.2.1 67)) 66 f_34) 44 n_35) 42 j_36) 43 j_37) 68 n_38) 69 j_39) 70 j_40) 57 f_66) 58 f_67) 59 f_68) 60 f_69) 61 f_70) 62 f_71)) := hD
                                exact x_zretW (v := 1) (u := (i_78, f_77, f_28, (σ.2.2.1 67), f_34, n_35, j_36, j_37, n_38, j_39, j_40, f_66, f_67, f_68, f_69, f_70, f_71)) hx hb hr hQ rfl (by (try dsimp only); exact ⟨⟨Or.inr ⟨by omega, pf_77, by omega, rfl⟩, ho9, by omega, by omega, hl8⟩, hg_72, hg_73, hg_74, hvf_28⟩) hP hD hK hS dX12_works_637 hlocks
                  · exact absurd (by decide) c_33
                · exact absurd c_32 (by decide)
              · exact absurd (by decide) c_31
            · exact absurd c_29 (by decide)
          · exact absurd (by decide) c_25
        · have kc_23 : j_21.toInt < j_22.toInt := by have h9 := x_tri j_21 j_22; (try simp only [Int64.reduceToInt] at h9); rcases h9 with ⟨g1, g2⟩ | ⟨g1, g2⟩ | ⟨g1, g2⟩ <;> first | omega | (exfalso; rw [g1] at c_23; revert c_23; decide)
          refine lv_iconst (v := 1) hx hb dX12_works_148 (by decide) ?_
          refine lv_goto (tgt := 153) hx hb dX12_works_149 (by decide) ?_
          refine lv_istore (lv' := [(13, .int 1), (11, .long j_20), (9, .long j_17), (7, .long j_14), (5, .long j_11), (4, .int i_8), (3, .int i_5), (0, .ref (ad 1)), (1, .int 1), (2, .int 5)]) hx hb dX12_works_153 hl (by decide) rfl (fun ls hl => ?_)
          refine lv_aload_n hx hb dX12_works_155 rfl (lv_at hl 7 rfl) ?_
          refine lv_iconst (v := 0) hx hb dX12_works_156 (by decide) ?_
          refine va_put (D := D) (ci := 11) (v := .int 0) (ty := .boolean) (C := RX12) (T := TX12) (N := 85) hx hb hts inX12 tyX12 tyX12_ok nmX12 hown hK hP hD hS 0 mwd_o0 rfl 44 (by decide) fl384 (fun _ h9 => h9) rfl (by decide +kernel) rfl rfl (Nat.le_of_ble_eq_true rfl) dX12_works_157 (fun H locs hP hD hS => ?_)
          have hP : va_P D vwCl (mwd y ad zw (sI σ 44 0)) H := x_trP hP mwd_p0_44
          have hD : va_D A (mwd y ad zw (sI σ 44 0)) := x_trD hD mwd_p0_44
          refine lv_iload_n hx hb dX12_works_160 rfl (lv_at hl 9 rfl) ?_
          refine lv_tableOut (tgt := 252) hx hb dX12_works_161 (by decide) (by decide) ?_
          refine lv_aload_n hx hb dX12_works_252 rfl (lv_at hl 7 rfl) ?_
          refine va_get (D := D) (ci := 11) (v := .int 0) (C := RX12) (T := TX12) (N := 85) hx hb hts inX12 hown hK hP 0 mwd_o0 rfl 44 (by decide) fl384 (fun _ h9 => h9) rfl dX12_works_253 ?_
          refine lv_if_eq (tgt := 268) hx hb dX12_works_256 (by decide) (fun c_80 => ?_) (fun c_80 => ?_)
          · refine lv_aload_n hx hb dX12_works_268 rfl (lv_at hl 7 rfl) ?_
            refine va_get (D := D) (ci := 11) (v := .ref (ad 63)) (C := RX12) (T := TX12) (N := 85) hx hb hts inX12 hown hK hP 0 mwd_o0 rfl 63 (by decide) fl142 (fun _ h9 => h9) rfl dX12_works_269 ?_
            refine lv_iload_n hx hb dX12_works_272 rfl (lv_at hl 8 rfl) ?_
            refine lv_dup2_11 hx hb dX12_works_273 rfl rfl ?_
            refine va_iald hx hb hK hP 43 2 mwd_a43 rfl (x_in (by decide) (by decide)) dX12_works_274 ?_
            refine lv_topi (fun i_81 ei_81 => ?_)
            have ei_81 : i_81 = (σ.2.2.1 63) (Int32.toNatClampNeg 1) := ei_81
            have gi_81 : i_81.toInt = (σ.2.2.1 63 1).toInt := by rw [ei_81]; rfl
            have bi_81 := b_at hB63 ei_81
            refine lv_iconst (v := 1) hx hb dX12_works_275 (by decide) ?_
            refine lv_iadd hx hb dX12_works_276 ?_
            refine lv_topi (fun i_82 ei_82 => ?_)
            have vi_82 : i_82.toInt = i_81.toInt + 1 := by have h9 := x_add ei_82 (by omega) (by omega); omega
            refine va_iast hx hb hK hP hD hS 43 2 mwd_a43 rfl (x_in (by decide) (by decide)) dX12_works_277 (fun H locs hP hD hS => ?_)
            obtain ⟨f_83, ef_83⟩ : ∃ z9 : Nat → Int32, z9 = (upd (σ.2.2.1 63) (Int32.toNatClampNeg 1) i_82) := ⟨_, rfl⟩
            have hP : va_P D vwCl (mwd y ad zw (tI (sI σ 44 0) 63 f_83)) H := by rw [ef_83]; exact x_trP hP mwd_s43
            have hD : va_D A (mwd y ad zw (tI (sI σ 44 0) 63 f_83)) := by rw [ef_83]; exact x_trD hD mwd_s43
            have hvf_83 : bI f_83 0 1000 := by rw [ef_83]; exact b_upd hB63 (by omega) (by omega)
            have sf_83 : (f_83 1).toInt = i_82.toInt := by rw [ef_83]; exact congrArg Int32.toInt (x_upd_same _ 1 _)
            refine lv_aload_n hx hb dX12_works_278 rfl (lv_at hl 7 rfl) ?_
            refine lv_dup hx hb dX12_works_279 rfl ?_
            refine va_get (D := D) (ci := 11) (v := .int (σ.1 73)) (C := RX12) (T := TX12) (N := 85) hx hb hts inX12 hown hK hP 0 mwd_o0 rfl 73 (by decide) fl421 (fun _ h9 => h9) rfl dX12_works_280 ?_
            refine lv_iload_n hx hb dX12_works_283 rfl (lv_at hl 9 rfl) ?_
            refine lv_bipush (v := 7) hx hb dX12_works_284 (by decide) ?_
            refine lv_icmp_ne (tgt := 293) hx hb dX12_works_286 (by decide) (fun c_84 => ?_) (fun c_84 => ?_)
            · refine lv_iconst (v := 2) hx hb dX12_works_293 (by decide) ?_
              refine lv_isub hx hb dX12_works_294 ?_
              refine lv_topi (fun i_85 ei_85 => ?_)
              have vi_85 : i_85.toInt = (σ.1 73).toInt - 2 := by have h9 := x_sub ei_85 (by omega) (by omega); omega
              refine va_put (D := D) (ci := 11) (v := .int i_85) (ty := .int) (C := RX12) (T := TX12) (N := 85) hx hb hts inX12 tyX12 tyX12_ok nmX12 hown hK hP hD hS 0 mwd_o0 rfl 73 (by decide) fl421 (fun _ h9 => h9) rfl (by decide +kernel) rfl rfl (Nat.le_of_ble_eq_true rfl) dX12_works_295 (fun H locs hP hD hS => ?_)
              have hP : va_P D vwCl (mwd y ad zw (sI (tI (sI σ 44 0) 63 f_83) 73 i_85)) H := x_trP hP mwd_p0_73
              have hD : va_D A (mwd y ad zw (sI (tI (sI σ 44 0) 63 f_83) 73 i_85)) := x_trD hD mwd_p0_73
              refine lv_iload_n hx hb dX12_works_298 rfl (lv_at hl 9 rfl) ?_
              refine lv_iconst (v := 4) hx hb dX12_works_299 (by decide) ?_
              refine lv_icmp_gt (tgt := 340) hx hb dX12_works_300 (by decide) (fun c_86 => ?_) (fun c_86 => ?_)
              · refine lv_iload_n hx hb dX12_works_340 rfl (lv_at hl 9 rfl) ?_
                refine lv_bipush (v := 7) hx hb dX12_works_341 (by decide) ?_
                refine lv_icmp_ne (tgt := 394) hx hb dX12_works_343 (by decide) (fun c_87 => ?_) (fun c_87 => ?_)
                · refine lv_iload_n hx hb dX12_works_394 rfl (lv_at hl 9 rfl) ?_
                  refine lv_iconst (v := 5) hx hb dX12_works_395 (by decide) ?_
                  refine lv_icmp_eq (tgt := 405) hx hb dX12_works_396 (by decide) (fun c_88 => ?_) (fun c_88 => ?_)
                  · refine lv_aload_n hx hb dX12_works_405 rfl (lv_at hl 7 rfl) ?_
                    refine lv_iload_n hx hb dX12_works_406 rfl (lv_at hl 8 rfl) ?_
                    refine lv_lload hx hb dX12_works_407 (lv_at hl 4 rfl) ?_
                    refine lv_lload hx hb dX12_works_409 (lv_at hl 3 rfl) ?_
                    refine lv_lload hx hb dX12_works_411 (lv_at hl 2 rfl) ?_
                    refine lv_lload hx hb dX12_works_413 (lv_at hl 1 rfl) ?_
                    refine x_callvW (va_runV (As := [.int 1, .long j_11, .long j_14, .long j_17, .long j_20]) (rest := []) ⟨hx, hb, hml, hown, hts⟩ (q_nears1 l D y H.size ad zw (sI (tI (sI σ 44 0) 63 f_83) 73 i_85) j_11 j_14 j_17 j_20 (by first | omega | decide) (by first | omega | decide) (by first | omega | decide) (by first | omega | decide) (by first | omega | decide) (by first | omega | decide) (by first | omega | decide) (by first | omega | decide)) (cwV 5 hts g_q_works1_5_0 rfl rfl rfl (by decide +kernel) ⟨Nat.le_of_ble_eq_true rfl, Nat.le_of_ble_eq_true rfl⟩) (x_preV (q := (RX12, TX12, 85)) hK hP hD (ci := 11) (q0 := 0) rfl mwd_o0) rfl rfl hl.1 rfl (lv_room (Nat.le_of_ble_eq_true rfl)) dX12_works_415 ⟨Nat.le_of_ble_eq_true rfl, Nat.le_of_ble_eq_true rfl⟩) hP hD hS hA (fun u H locs hw hP hD hS => ?_)
                    obtain ⟨f_89, n_90, j_91, j_92, n_93, j_94, j_95⟩ := u
                    try dsimp only at hw
                    have hP : va_P D vwCl (mwd y ad zw (sJ (sJ (sI (sJ (sJ (sI (tI (sI (tI (sI σ 44 0) 63 f_83) 73 i_85) 66 f_89) 44 n_90) 42 j_91) 43 j_92) 68 n_93) 69 j_94) 70 j_95)) H := hP
                    have hD : va_D A (mwd y ad zw (sJ (sJ (sI (sJ (sJ (sI (tI (sI (tI (sI σ 44 0) 63 f_83) 73 i_85) 66 f_89) 44 n_90) 42 j_91) 43 j_92) 68 n_93) 69 j_94) 70 j_95)) := hD
                    have hw : True := hw
                    refine lv_iload_n hx hb dX12_works_418 rfl (lv_at hl 9 rfl) ?_
                    refine lv_iconst (v := 5) hx hb dX12_works_419 (by decide) ?_
                    refine lv_icmp_ne (tgt := 445) hx hb dX12_works_420 (by decide) (fun c_96 => ?_) (fun c_96 => ?_)
                    · exact absurd (by decide) c_96
                    · refine lv_lload hx hb dX12_works_423 (lv_at hl 2 rfl) ?_
                      refine lv_lload hx hb dX12_works_425 (lv_at hl 3 rfl) ?_
                      refine lv_lmul hx hb dX12_works_427 ?_
                      refine lv_topl (fun j_97 ej_97 => ?_)
                      have vj_97 := x_mulB ej_97 (by omega) (by omega) (by omega) (by omega)
                      refine lv_lload hx hb dX12_works_428 (lv_at hl 4 rfl) ?_
                      refine lv_lload hx hb dX12_works_430 (lv_at hl 1 rfl) ?_
                      refine lv_lmul hx hb dX12_works_432 ?_
                      refine lv_topl (fun j_98 ej_98 => ?_)
                      have vj_98 := x_mulB ej_98 (by omega) (by omega) (by omega) (by omega)
                      refine W.lcmp hx hb dX12_works_433 ?_
                      refine lv_if_ge (tgt := 441) hx hb dX12_works_434 (by decide) (fun c_99 => ?_) (fun c_99 => ?_)
                      · have kc_99 : j_97.toInt ≥ j_98.toInt := by have h9 := x_tri j_97 j_98; (try simp only [Int64.reduceToInt] at h9); rcases h9 with ⟨g1, g2⟩ | ⟨g1, g2⟩ | ⟨g1, g2⟩ <;> first | omega | (exfalso; rw [g1] at c_99; revert c_99; decide)
                        refine lv_iconst (v := 0) hx hb dX12_works_441 (by decide) ?_
                        refine lv_goto (tgt := 464) hx hb dX12_works_442 (by decide) ?_
                        refine lv_istore (lv' := [(14, .int 0), (13, .int 1), (11, .long j_20), (9, .long j_17), (7, .long j_14), (5, .long j_11), (4, .int i_8), (3, .int i_5), (0, .ref (ad 1)), (1, .int 1), (2, .int 5)]) hx hb dX12_works_464 hl (by decide) rfl (fun ls hl => ?_)
                        refine lv_aload_n hx hb dX12_works_466 rfl (lv_at hl 8 rfl) ?_
                        refine lv_iload_n hx hb dX12_works_467 rfl (lv_at hl 9 rfl) ?_
                        refine lv_iload hx hb dX12_works_468 (lv_at hl 0 rfl) ?_
                        refine lv_if_eq (tgt := 478) hx hb dX12_works_470 (by decide) (fun c_100 => ?_) (fun c_100 => ?_)
                        · refine lv_lload hx hb dX12_works_478 (lv_at hl 5 rfl) ?_
                          refine lv_iload hx hb dX12_works_480 (lv_at hl 0 rfl) ?_
                          refine lv_if_eq (tgt := 490) hx hb dX12_works_482 (by decide) (fun c_101 => ?_) (fun c_101 => ?_)
                          · refine lv_lload hx hb dX12_works_490 (lv_at hl 4 rfl) ?_
                            refine lv_iload_n hx hb dX12_works_492 rfl (lv_at hl 10 rfl) ?_
                            refine lv_iload hx hb dX12_works_493 (lv_at hl 0 rfl) ?_
                            refine lv_if_eq (tgt := 502) hx hb dX12_works_495 (by decide) (fun c_102 => ?_) (fun c_102 => ?_)
                            · refine lv_iload hx hb dX12_works_502 (lv_at hl 6 rfl) ?_
                              refine lv_iload hx hb dX12_works_504 (lv_at hl 0 rfl) ?_
                              refine lv_if_eq (tgt := 513) hx hb dX12_works_506 (by decide) (fun c_103 => ?_) (fun c_103 => ?_)
                              · refine lv_iload hx hb dX12_works_513 (lv_at hl 6 rfl) ?_
                                refine x_callvW (va_runV (As := [.int 1, .long j_11, .long j_14, .int 5, .int i_8, .int i_8]) (rest := []) ⟨hx, hb, hml, hown, hts⟩ (q_lays1 l D y H.size ad zw (sJ (sJ (sI (sJ (sJ (sI (tI (sI (tI (sI σ 44 0) 63 f_83) 73 i_85) 66 f_89) 44 n_90) 42 j_91) 43 j_92) 68 n_93) 69 j_94) 70 j_95) j_11 j_14 5 i_8 i_8 (by first | omega | decide) (by first | omega | decide) (by first | omega | decide) (by first | omega | decide) hop (fun _ => by omega) (show 0 ≤ ((σ.2.2.1 62) 1).toInt from by first | omega | decide) (show ((σ.2.2.1 62) 1).toInt < 1760 from by first | omega | decide) hB57 hB58 hB62) (cwV 6 hts g_q_works1_5_1 rfl rfl rfl (by decide +kernel) ⟨Nat.le_of_ble_eq_true rfl, Nat.le_of_ble_eq_true rfl⟩) (x_preV (q := (RX12, TX12, 85)) hK hP hD (ci := 11) (q0 := 0) rfl mwd_o0) rfl rfl hl.1 rfl (lv_room (Nat.le_of_ble_eq_true rfl)) dX12_works_515 ⟨Nat.le_of_ble_eq_true rfl, Nat.le_of_ble_eq_true rfl⟩) hP hD hS hA (fun u H locs hw hP hD hS => ?_)
                                obtain ⟨f_104, f_105, f_106, f_107, f_108, f_109⟩ := u
                                try dsimp only at hw
                                have hP : va_P D vwCl (mwd y ad zw (tI (tI (tI (tI (tJ (tJ (sJ (sJ (sI (sJ (sJ (sI (tI (sI (tI (sI σ 44 0) 63 f_83) 73 i_85) 66 f_89) 44 n_90) 42 j_91) 43 j_92) 68 n_93) 69 j_94) 70 j_95) 57 f_104) 58 f_105) 59 f_106) 60 f_107) 61 f_108) 62 f_109)) H := hP
                                have hD : va_D A (mwd y ad zw (tI (tI (tI (tI (tJ (tJ (sJ (sJ (sI (sJ (sJ (sI (tI (sI (tI (sI σ 44 0) 63 f_83) 73 i_85) 66 f_89) 44 n_90) 42 j_91) 43 j_92) 68 n_93) 69 j_94) 70 j_95) 57 f_104) 58 f_105) 59 f_106) 60 f_107) 61 f_108) 62 f_109)) := hD
                                have hw : (opc f_106 f_107 f_108 ∧ (f_109 1).toInt = ((σ.2.2.1 62) 1).toInt + 1 ∧ f_109 0 = (σ.2.2.1 62) 0) ∧ bJ f_104 (-1000000000) 1000000000 ∧ bJ f_105 0 1000000000 ∧ bI f_109 0 1760 := hw
                                obtain ⟨hw, hg_110, hg_111, hg_112⟩ := hw
                                obtain ⟨ho9, hl9, hl8⟩ := hw
                                refine lv_aload_n hx hb dX12_works_518 rfl (lv_at hl 8 rfl) ?_
                                refine va_get (D := D) (ci := 11) (v := .ref (ad 72)) (C := RX12) (T := TX12) (N := 85) hx hb hts inX12 hown hK hP 0 mwd_o0 rfl 72 (by decide) fl160 (fun _ h9 => h9) rfl dX12_works_519 ?_
                                refine lv_aload_n hx hb dX12_works_522 rfl (lv_at hl 8 rfl) ?_
                                refine va_get (D := D) (ci := 11) (v := .int i_85) (C := RX12) (T := TX12) (N := 85) hx hb hts inX12 hown hK hP 0 mwd_o0 rfl 73 (by decide) fl421 (fun _ h9 => h9) rfl dX12_works_523 ?_
                                refine lv_aload_n hx hb dX12_works_526 rfl (lv_at hl 8 rfl) ?_
                                refine va_get (D := D) (ci := 11) (v := .ref (ad 62)) (C := RX12) (T := TX12) (N := 85) hx hb hts inX12 hown hK hP 0 mwd_o0 rfl 62 (by decide) fl139 (fun _ h9 => h9) rfl dX12_works_527 ?_
                                refine lv_iload_n hx hb dX12_works_530 rfl (lv_at hl 9 rfl) ?_
                                refine va_iald hx hb hK hP 42 2 mwd_a42 rfl (x_in (by decide) (by decide)) dX12_works_531 ?_
                                refine lv_topi (fun i_113 ei_113 => ?_)
                                have ei_113 : i_113 = f_109 (Int32.toNatClampNeg 1) := ei_113
                                have gi_113 : i_113.toInt = (f_109 1).toInt := by rw [ei_113]; rfl
                                have bi_113 := b_at hg_112 ei_113
                                refine lv_iconst (v := 1) hx hb dX12_works_532 (by decide) ?_
                                refine lv_isub hx hb dX12_works_533 ?_
                                refine lv_topi (fun i_114 ei_114 => ?_)
                                have vi_114 : i_114.toInt = i_113.toInt - 1 := by have h9 := x_sub ei_114 (by omega) (by omega); omega
                                refine va_iast hx hb hK hP hD hS 49 2 mwd_a49 rfl (x_in (by omega) (by omega)) dX12_works_534 (fun H locs hP hD hS => ?_)
                                obtain ⟨f_115, ef_115⟩ : ∃ z9 : Nat → Int32, z9 = (upd (σ.2.2.1 72) (Int32.toNatClampNeg i_85) i_114) := ⟨_, rfl⟩
                                have hP : va_P D vwCl (mwd y ad zw (tI (tI (tI (tI (tI (tJ (tJ (sJ (sJ (sI (sJ (sJ (sI (tI (sI (tI (sI σ 44 0) 63 f_83) 73 i_85) 66 f_89) 44 n_90) 42 j_91) 43 j_92) 68 n_93) 69 j_94) 70 j_95) 57 f_104) 58 f_105) 59 f_106) 60 f_107) 61 f_108) 62 f_109) 72 f_115)) H := by rw [ef_115]; exact x_trP hP mwd_s49
                                have hD : va_D A (mwd y ad zw (tI (tI (tI (tI (tI (tJ (tJ (sJ (sJ (sI (sJ (sJ (sI (tI (sI (tI (sI σ 44 0) 63 f_83) 73 i_85) 66 f_89) 44 n_90) 42 j_91) 43 j_92) 68 n_93) 69 j_94) 70 j_95) 57 f_104) 58 f_105) 59 f_106) 60 f_107) 61 f_108) 62 f_109) 72 f_115)) := by rw [ef_115]; exact x_trD hD mwd_s49
                                have pf_115 : PT (true :: T) f_115 (f_109 1).toInt := by rw [ef_115]; exact PT_pushN (PT_mono (by omega) hPT.2.2) (x_cl (by omega)) (by omega) (by omega)
                                refine lv_goto (tgt := 626) hx hb dX12_works_535 (by decide) ?_
                                refine lv_aload_n hx hb dX12_works_626 rfl (lv_at hl 8 rfl) ?_
                                refine lv_dup hx hb dX12_works_627 rfl ?_
                                refine va_get (D := D) (ci := 11) (v := .int i_85) (C := RX12) (T := TX12) (N := 85) hx hb hts inX12 hown hK hP 0 mwd_o0 rfl 73 (by decide) fl421 (fun _ h9 => h9) rfl dX12_works_628 ?_
                                refine lv_iconst (v := 1) hx hb dX12_works_631 (by decide) ?_
                                refine lv_iadd hx hb dX12_works_632 ?_
                                refine lv_topi (fun i_116 ei_116 => ?_)
                                have vi_116 : i_116.toInt = i_85.toInt + 1 := by have h9 := x_add ei_116 (by omega) (by omega); omega
                                refine va_put (D := D) (ci := 11) (v := .int i_116) (ty := .int) (C := RX12) (T := TX12) (N := 85) hx hb hts inX12 tyX12 tyX12_ok nmX12 hown hK hP hD hS 0 mwd_o0 rfl 73 (by decide) fl421 (fun _ h9 => h9) rfl (by decide +kernel) rfl rfl (Nat.le_of_ble_eq_true rfl) dX12_works_633 (fun H locs hP hD hS => ?_)
                                have hP : va_P D vwCl (mwd y ad zw (sI (tI (tI (tI (tI (tI (tJ (tJ (sJ (sJ (sI (sJ (sJ (sI (tI (sI (tI (sI σ 44 0) 63 f_83) 73 i_85) 66 f_89) 44 n_90) 42 j_91) 43 j_92) 68 n_93) 69 j_94) 70 j_95) 57 f_104) 58 f_105) 59 f_106) 60 f_107) 61 f_108) 62 f_109) 72 f_115) 73 i_116)) H := x_trP hP mwd_p0_73
                                have hD : va_D A (mwd y ad zw (sI (tI (tI (tI (tI (tI (tJ (tJ (sJ (sJ (sI (sJ (sJ (sI (tI (sI (tI (sI σ 44 0) 63 f_83) 73 i_85) 66 f_89) 44 n_90) 42 j_91) 43 j_92) 68 n_93) 69 j_94) 70 j_95) 57 f_104) 58 f_105) 59 f_106) 60 f_107) 61 f_108) 62 f_109) 72 f_115) 73 i_116)) := x_trD hD mwd_p0_73
                                refine lv_iconst (v := 1) hx hb dX12_works_636 (by decide) ?_
                                have hP : va_P D vwCl (mwd y ad zw (tI (tI (tI (tI (tJ (tJ (sJ (sJ (sI (sJ (sJ (sI (tI (tI (tI (tI (sI σ 73 i_116) 72 f_115) 63 f_83) 67 (σ.2.2.1 67)) 66 f_89) 44 n_90) 42 j_91) 43 j_92) 68 n_93) 69 j_94) 70 j_95) 57 f_104) 58 f_105) 59 f_106) 60 f_107) 61 f_108) 62 f_109)) H := hP
                                have hD : va_D A (mwd y ad zw (tI (tI (tI (tI (tJ (tJ (sJ (sJ (sI (sJ (sJ (sI (tI (tI (tI (tI (sI σ 73 i_116) 72 f_115) 63 f_83) 67 (σ.2.2.1 67)) 66 f_89) 44 n_90) 42 j_91) 43 j_92) 68 n_93) 69 j_94) 70 j_95) 57 f_104) 58 f_105) 59 f_106) 60 f_107) 61 f_108) 62 f_109)) := hD
                                exact x_zretW (v := 1) (u := (i_116, f_115, f_83, (σ.2.2.1 67), f_89, n_90, j_91, j_92, n_93, j_94, j_95, f_104, f_105, f_106, f_107, f_108, f_109)) hx hb hr hQ rfl (by (try dsimp only); exact ⟨⟨Or.inr ⟨by omega, pf_115, by omega, rfl⟩, ho9, by omega, by omega, hl8⟩, hg_110, hg_111, hg_112, hvf_83⟩) hP hD hK hS dX12_works_637 hlocks
                              · exact absurd (by decide) c_103
                            · exact absurd (by decide) c_102
                          · exact absurd (by decide) c_101
                        · exact absurd (by decide) c_100
                      · have kc_99 : j_97.toInt < j_98.toInt := by have h9 := x_tri j_97 j_98; (try simp only [Int64.reduceToInt] at h9); rcases h9 with ⟨g1, g2⟩ | ⟨g1, g2⟩ | ⟨g1, g2⟩ <;> first | omega | (exfalso; rw [g1] at c_99; revert c_99; decide)
                        refine lv_iconst (v := 1) hx hb dX12_works_437 (by decide) ?_
                        refine lv_goto (tgt := 464) hx hb dX12_works_438 (by decide) ?_
                        refine lv_istore (lv' := [(14, .int 1), (13, .int 1), (11, .long j_20), (9, .long j_17), (7, .long j_14), (5, .long j_11), (4, .int i_8), (3, .int i_5), (0, .ref (ad 1)), (1, .int 1), (2, .int 5)]) hx hb dX12_works_464 hl (by decide) rfl (fun ls hl => ?_)
                        refine lv_aload_n hx hb dX12_works_466 rfl (lv_at hl 8 rfl) ?_
                        refine lv_iload_n hx hb dX12_works_467 rfl (lv_at hl 9 rfl) ?_
                        refine lv_iload hx hb dX12_works_468 (lv_at hl 0 rfl) ?_
                        refine lv_if_eq (tgt := 478) hx hb dX12_works_470 (by decide) (fun c_117 => ?_) (fun c_117 => ?_)
                        · exact absurd c_117 (by decide)
                        · refine lv_lload hx hb dX12_works_473 (lv_at hl 3 rfl) ?_
                          refine lv_goto (tgt := 480) hx hb dX12_works_475 (by decide) ?_
                          refine lv_iload hx hb dX12_works_480 (lv_at hl 0 rfl) ?_
                          refine lv_if_eq (tgt := 490) hx hb dX12_works_482 (by decide) (fun c_118 => ?_) (fun c_118 => ?_)
                          · exact absurd c_118 (by decide)
                          · refine lv_lload hx hb dX12_works_485 (lv_at hl 2 rfl) ?_
                            refine lv_goto (tgt := 492) hx hb dX12_works_487 (by decide) ?_
                            refine lv_iload_n hx hb dX12_works_492 rfl (lv_at hl 10 rfl) ?_
                            refine lv_iload hx hb dX12_works_493 (lv_at hl 0 rfl) ?_
                            refine lv_if_eq (tgt := 502) hx hb dX12_works_495 (by decide) (fun c_119 => ?_) (fun c_119 => ?_)
                            · exact absurd c_119 (by decide)
                            · refine lv_iload_n hx hb dX12_works_498 rfl (lv_at hl 7 rfl) ?_
                              refine lv_goto (tgt := 504) hx hb dX12_works_499 (by decide) ?_
                              refine lv_iload hx hb dX12_works_504 (lv_at hl 0 rfl) ?_
                              refine lv_if_eq (tgt := 513) hx hb dX12_works_506 (by decide) (fun c_120 => ?_) (fun c_120 => ?_)
                              · exact absurd c_120 (by decide)
                              · refine lv_iload_n hx hb dX12_works_509 rfl (lv_at hl 7 rfl) ?_
                                refine lv_goto (tgt := 515) hx hb dX12_works_510 (by decide) ?_
                                refine x_callvW (va_runV (As := [.int 1, .long j_17, .long j_20, .int 5, .int i_5, .int i_5]) (rest := []) ⟨hx, hb, hml, hown, hts⟩ (q_lays1 l D y H.size ad zw (sJ (sJ (sI (sJ (sJ (sI (tI (sI (tI (sI σ 44 0) 63 f_83) 73 i_85) 66 f_89) 44 n_90) 42 j_91) 43 j_92) 68 n_93) 69 j_94) 70 j_95) j_17 j_20 5 i_5 i_5 (by first | omega | decide) (by first | omega | decide) (by first | omega | decide) (by first | omega | decide) hop (fun _ => by omega) (show 0 ≤ ((σ.2.2.1 62) 1).toInt from by first | omega | decide) (show ((σ.2.2.1 62) 1).toInt < 1760 from by first | omega | decide) hB57 hB58 hB62) (cwV 6 hts g_q_works1_5_1 rfl rfl rfl (by decide +kernel) ⟨Nat.le_of_ble_eq_true rfl, Nat.le_of_ble_eq_true rfl⟩) (x_preV (q := (RX12, TX12, 85)) hK hP hD (ci := 11) (q0 := 0) rfl mwd_o0) rfl rfl hl.1 rfl (lv_room (Nat.le_of_ble_eq_true rfl)) dX12_works_515 ⟨Nat.le_of_ble_eq_true rfl, Nat.le_of_ble_eq_true rfl⟩) hP hD hS hA (fun u H locs hw hP hD hS => ?_)
                                obtain ⟨f_121, f_122, f_123, f_124, f_125, f_126⟩ := u
                                try dsimp only at hw
                                have hP : va_P D vwCl (mwd y ad zw (tI (tI (tI (tI (tJ (tJ (sJ (sJ (sI (sJ (sJ (sI (tI (sI (tI (sI σ 44 0) 63 f_83) 73 i_85) 66 f_89) 44 n_90) 42 j_91) 43 j_92) 68 n_93) 69 j_94) 70 j_95) 57 f_121) 58 f_122) 59 f_123) 60 f_124) 61 f_125) 62 f_126)) H := hP
                                have hD : va_D A (mwd y ad zw (tI (tI (tI (tI (tJ (tJ (sJ (sJ (sI (sJ (sJ (sI (tI (sI (tI (sI σ 44 0) 63 f_83) 73 i_85) 66 f_89) 44 n_90) 42 j_91) 43 j_92) 68 n_93) 69 j_94) 70 j_95) 57 f_121) 58 f_122) 59 f_123) 60 f_124) 61 f_125) 62 f_126)) := hD
                                have hw : (opc f_123 f_124 f_125 ∧ (f_126 1).toInt = ((σ.2.2.1 62) 1).toInt + 1 ∧ f_126 0 = (σ.2.2.1 62) 0) ∧ bJ f_121 (-1000000000) 1000000000 ∧ bJ f_122 0 1000000000 ∧ bI f_126 0 1760 := hw
                                obtain ⟨hw, hg_127, hg_128, hg_129⟩ := hw
                                obtain ⟨ho9, hl9, hl8⟩ := hw
                                refine lv_aload_n hx hb dX12_works_518 rfl (lv_at hl 8 rfl) ?_
                                refine va_get (D := D) (ci := 11) (v := .ref (ad 72)) (C := RX12) (T := TX12) (N := 85) hx hb hts inX12 hown hK hP 0 mwd_o0 rfl 72 (by decide) fl160 (fun _ h9 => h9) rfl dX12_works_519 ?_
                                refine lv_aload_n hx hb dX12_works_522 rfl (lv_at hl 8 rfl) ?_
                                refine va_get (D := D) (ci := 11) (v := .int i_85) (C := RX12) (T := TX12) (N := 85) hx hb hts inX12 hown hK hP 0 mwd_o0 rfl 73 (by decide) fl421 (fun _ h9 => h9) rfl dX12_works_523 ?_
                                refine lv_aload_n hx hb dX12_works_526 rfl (lv_at hl 8 rfl) ?_
                                refine va_get (D := D) (ci := 11) (v := .ref (ad 62)) (C := RX12) (T := TX12) (N := 85) hx hb hts inX12 hown hK hP 0 mwd_o0 rfl 62 (by decide) fl139 (fun _ h9 => h9) rfl dX12_works_527 ?_
                                refine lv_iload_n hx hb dX12_works_530 rfl (lv_at hl 9 rfl) ?_
                                refine va_iald hx hb hK hP 42 2 mwd_a42 rfl (x_in (by decide) (by decide)) dX12_works_531 ?_
                                refine lv_topi (fun i_130 ei_130 => ?_)
                                have ei_130 : i_130 = f_126 (Int32.toNatClampNeg 1) := ei_130
                                have gi_130 : i_130.toInt = (f_126 1).toInt := by rw [ei_130]; rfl
                                have bi_130 := b_at hg_129 ei_130
                                refine lv_iconst (v := 1) hx hb dX12_works_532 (by decide) ?_
                                refine lv_isub hx hb dX12_works_533 ?_
                                refine lv_topi (fun i_131 ei_131 => ?_)
                                have vi_131 : i_131.toInt = i_130.toInt - 1 := by have h9 := x_sub ei_131 (by omega) (by omega); omega
                                refine va_iast hx hb hK hP hD hS 49 2 mwd_a49 rfl (x_in (by omega) (by omega)) dX12_works_534 (fun H locs hP hD hS => ?_)
                                obtain ⟨f_132, ef_132⟩ : ∃ z9 : Nat → Int32, z9 = (upd (σ.2.2.1 72) (Int32.toNatClampNeg i_85) i_131) := ⟨_, rfl⟩
                                have hP : va_P D vwCl (mwd y ad zw (tI (tI (tI (tI (tI (tJ (tJ (sJ (sJ (sI (sJ (sJ (sI (tI (sI (tI (sI σ 44 0) 63 f_83) 73 i_85) 66 f_89) 44 n_90) 42 j_91) 43 j_92) 68 n_93) 69 j_94) 70 j_95) 57 f_121) 58 f_122) 59 f_123) 60 f_124) 61 f_125) 62 f_126) 72 f_132)) H := by rw [ef_132]; exact x_trP hP mwd_s49
                                have hD : va_D A (mwd y ad zw (tI (tI (tI (tI (tI (tJ (tJ (sJ (sJ (sI (sJ (sJ (sI (tI (sI (tI (sI σ 44 0) 63 f_83) 73 i_85) 66 f_89) 44 n_90) 42 j_91) 43 j_92) 68 n_93) 69 j_94) 70 j_95) 57 f_121) 58 f_122) 59 f_123) 60 f_124) 61 f_125) 62 f_126) 72 f_132)) := by rw [ef_132]; exact x_trD hD mwd_s49
                                have pf_132 : PT (true :: T) f_132 (f_126 1).toInt := by rw [ef_132]; exact PT_pushN (PT_mono (by omega) hPT.2.2) (x_cl (by omega)) (by omega) (by omega)
                                refine lv_goto (tgt := 626) hx hb dX12_works_535 (by decide) ?_
                                refine lv_aload_n hx hb dX12_works_626 rfl (lv_at hl 8 rfl) ?_
                                refine lv_dup hx hb dX12_works_627 rfl ?_
                                refine va_get (D := D) (ci := 11) (v := .int i_85) (C := RX12) (T := TX12) (N := 85) hx hb hts inX12 hown hK hP 0 mwd_o0 rfl 73 (by decide) fl421 (fun _ h9 => h9) rfl dX12_works_628 ?_
                                refine lv_iconst (v := 1) hx hb dX12_works_631 (by decide) ?_
                                refine lv_iadd hx hb dX12_works_632 ?_
                                refine lv_topi (fun i_133 ei_133 => ?_)
                                have vi_133 : i_133.toInt = i_85.toInt + 1 := by have h9 := x_add ei_133 (by omega) (by omega); omega
                                refine va_put (D := D) (ci := 11) (v := .int i_133) (ty := .int) (C := RX12) (T := TX12) (N := 85) hx hb hts inX12 tyX12 tyX12_ok nmX12 hown hK hP hD hS 0 mwd_o0 rfl 73 (by decide) fl421 (fun _ h9 => h9) rfl (by decide +kernel) rfl rfl (Nat.le_of_ble_eq_true rfl) dX12_works_633 (fun H locs hP hD hS => ?_)
                                have hP : va_P D vwCl (mwd y ad zw (sI (tI (tI (tI (tI (tI (tJ (tJ (sJ (sJ (sI (sJ (sJ (sI (tI (sI (tI (sI σ 44 0) 63 f_83) 73 i_85) 66 f_89) 44 n_90) 42 j_91) 43 j_92) 68 n_93) 69 j_94) 70 j_95) 57 f_121) 58 f_122) 59 f_123) 60 f_124) 61 f_125) 62 f_126) 72 f_132) 73 i_133)) H := x_trP hP mwd_p0_73
                                have hD : va_D A (mwd y ad zw (sI (tI (tI (tI (tI (tI (tJ (tJ (sJ (sJ (sI (sJ (sJ (sI (tI (sI (tI (sI σ 44 0) 63 f_83) 73 i_85) 66 f_89) 44 n_90) 42 j_91) 43 j_92) 68 n_93) 69 j_94) 70 j_95) 57 f_121) 58 f_122) 59 f_123) 60 f_124) 61 f_125) 62 f_126) 72 f_132) 73 i_133)) := x_trD hD mwd_p0_73
                                refine lv_iconst (v := 1) hx hb dX12_works_636 (by decide) ?_
                                have hP : va_P D vwCl (mwd y ad zw (tI (tI (tI (tI (tJ (tJ (sJ (sJ (sI (sJ (sJ (sI (tI (tI (tI (tI (sI σ 73 i_133) 72 f_132) 63 f_83) 67 (σ.2.2.1 67)) 66 f_89) 44 n_90) 42 j_91) 43 j_92) 68 n_93) 69 j_94) 70 j_95) 57 f_121) 58 f_122) 59 f_123) 60 f_124) 61 f_125) 62 f_126)) H := hP
                                have hD : va_D A (mwd y ad zw (tI (tI (tI (tI (tJ (tJ (sJ (sJ (sI (sJ (sJ (sI (tI (tI (tI (tI (sI σ 73 i_133) 72 f_132) 63 f_83) 67 (σ.2.2.1 67)) 66 f_89) 44 n_90) 42 j_91) 43 j_92) 68 n_93) 69 j_94) 70 j_95) 57 f_121) 58 f_122) 59 f_123) 60 f_124) 61 f_125) 62 f_126)) := hD
                                exact x_zretW (v := 1) (u := (i_133, f_132, f_83, (σ.2.2.1 67), f_89, n_90, j_91, j_92, n_93, j_94, j_95, f_121, f_122, f_123, f_124, f_125, f_126)) hx hb hr hQ rfl (by (try dsimp only); exact ⟨⟨Or.inr ⟨by omega, pf_132, by omega, rfl⟩, ho9, by omega, by omega, hl8⟩, hg_127, hg_128, hg_129, hvf_83⟩) hP hD hK hS dX12_works_637 hlocks
                  · exact absurd (by decide) c_88
                · exact absurd c_87 (by decide)
              · exact absurd (by decide) c_86
            · exact absurd c_84 (by decide)
          · exact absurd (by decide) c_80
      · exact absurd c_6 (by decide)
    · exact absurd c_3 (by decide)
  · have kc_2 : i_1.toInt = 1000 := by have h9 := c_2; simp only [ge_iff_le, gt_iff_lt, x_lt, x_le, x_eq, ne_eq, Int32.not_lt, Int32.not_le] at h9; simp only [Int32.reduceToInt] at h9; omega
    refine lv_aload_n hx hb dX12_works_12 rfl (lv_at hl 0 rfl) ?_
    refine va_get (D := D) (ci := 11) (v := .ref (ad 67)) (C := RX12) (T := TX12) (N := 85) hx hb hts inX12 hown hK hP 0 mwd_o0 rfl 67 (by decide) fl154 (fun _ h9 => h9) rfl dX12_works_13 ?_
    refine lv_iload_n hx hb dX12_works_16 rfl (lv_at hl 1 rfl) ?_
    refine lv_iconst (v := 2) hx hb dX12_works_17 (by decide) ?_
    refine va_iast hx hb hK hP hD hS 47 2 mwd_a47 rfl (x_in (by decide) (by decide)) dX12_works_18 (fun H locs hP hD hS => ?_)
    obtain ⟨f_134, ef_134⟩ : ∃ z9 : Nat → Int32, z9 = (upd (σ.2.2.1 67) (Int32.toNatClampNeg 1) 2) := ⟨_, rfl⟩
    have hP : va_P D vwCl (mwd y ad zw (tI σ 67 f_134)) H := by rw [ef_134]; exact x_trP hP mwd_s47
    have hD : va_D A (mwd y ad zw (tI σ 67 f_134)) := by rw [ef_134]; exact x_trD hD mwd_s47
    refine lv_iconst (v := 0) hx hb dX12_works_19 (by decide) ?_
    have hP : va_P D vwCl (mwd y ad zw (tI (tI (tI (tI (tJ (tJ (sJ (sJ (sI (sJ (sJ (sI (tI (tI (tI (tI (sI σ 73 (σ.1 73)) 72 (σ.2.2.1 72)) 63 (σ.2.2.1 63)) 67 f_134) 66 (σ.2.2.1 66)) 44 (σ.1 44)) 42 (σ.2.1 42)) 43 (σ.2.1 43)) 68 (σ.1 68)) 69 (σ.2.1 69)) 70 (σ.2.1 70)) 57 (σ.2.2.2 57)) 58 (σ.2.2.2 58)) 59 (σ.2.2.1 59)) 60 (σ.2.2.1 60)) 61 (σ.2.2.1 61)) 62 (σ.2.2.1 62))) H := hP
    have hD : va_D A (mwd y ad zw (tI (tI (tI (tI (tJ (tJ (sJ (sJ (sI (sJ (sJ (sI (tI (tI (tI (tI (sI σ 73 (σ.1 73)) 72 (σ.2.2.1 72)) 63 (σ.2.2.1 63)) 67 f_134) 66 (σ.2.2.1 66)) 44 (σ.1 44)) 42 (σ.2.1 42)) 43 (σ.2.1 43)) 68 (σ.1 68)) 69 (σ.2.1 69)) 70 (σ.2.1 70)) 57 (σ.2.2.2 57)) 58 (σ.2.2.2 58)) 59 (σ.2.2.1 59)) 60 (σ.2.2.1 60)) 61 (σ.2.2.1 61)) 62 (σ.2.2.1 62))) := hD
    exact x_zretW (v := 0) (u := ((σ.1 73), (σ.2.2.1 72), (σ.2.2.1 63), f_134, (σ.2.2.1 66), (σ.1 44), (σ.2.1 42), (σ.2.1 43), (σ.1 68), (σ.2.1 69), (σ.2.1 70), (σ.2.2.2 57), (σ.2.2.2 58), (σ.2.2.1 59), (σ.2.2.1 60), (σ.2.2.1 61), (σ.2.2.1 62))) hx hb hr hQ rfl (by (try dsimp only); exact ⟨⟨Or.inl (by rw [ef_134]; show (upd _ 1 _ 1).toInt ≠ 0; rw [x_upd_same]; decide), hop, by omega, by omega, rfl⟩, hB57, hB58, hB62, hB63⟩) hP hD hK hS dX12_works_20 hlocks

def v_q_works1_6 : List Cond := .code yX12_works cX12_works 15 (some .boolean) :: ([.fieldLink RX12 142 "SlopeRunnerModel" "steps" "[I", .fieldLink RX12 160 "SlopeRunnerModel" "pile" "[I", .fieldLink RX12 421 "SlopeRunnerModel" "piled" "I", .fieldLink RX12 124 "SlopeRunnerModel" "valueAbove" "[J", .fieldLink RX12 127 "SlopeRunnerModel" "valueBelow" "[J", .fieldLink RX12 384 "SlopeRunnerModel" "isStuck" "Z", .fieldLink RX12 139 "SlopeRunnerModel" "laid" "[I", .fieldLink RX12 154 "SlopeRunnerModel" "state" "[I"] ++ ((wsV RX12 437 RX12 yX12_nears v_q_nears1) ++ ((wsV RX12 433 RX12 yX12_lays v_q_lays1) ++ wsX120)))
theorem g_q_works1_6_0 : GoodIn v_q_works1_6 (wsV RX12 437 RX12 yX12_nears v_q_nears1) := goodIn_sub (fun w h => List.mem_cons_of_mem _ (List.mem_append_right _ (List.mem_append_left _ h))) (by decide +kernel)
theorem g_q_works1_6_1 : GoodIn v_q_works1_6 (wsV RX12 433 RX12 yX12_lays v_q_lays1) := goodIn_sub (fun w h => List.mem_cons_of_mem _ (List.mem_append_right _ (List.mem_append_right _ (List.mem_append_left _ h)))) (by decide +kernel)
set_option maxHeartbeats 4000000 in
set_option maxRecDepth 100000 in
theorem q_works1_6 (l : Launch) (D : va_G) (y : Nat → ClassId) (sz : Nat) (ad : Nat → Nat) (zw : Nat → Nat → Int32) (σ : OS) (T : List Bool) (hp : (σ.1 73).toInt = (T.length : Int) + 2) (hT : T.length ≤ 700) (hPT : PT (true :: true :: T) (σ.2.2.1 72) (σ.2.2.1 62 1).toInt) (hop : opc (σ.2.2.1 59) (σ.2.2.1 60) (σ.2.2.1 61)) (hl0 : 0 ≤ (σ.2.2.1 62 1).toInt) (hl1 : (σ.2.2.1 62 1).toInt < 1760) (hB57 : bJ (σ.2.2.2 57) (-1000000000) 1000000000) (hB58 : bJ (σ.2.2.2 58) 0 1000000000) (hB62 : bI (σ.2.2.1 62) 0 1760) (hB63 : bI (σ.2.2.1 63) 0 1000) : Met l yX12_works v_q_works1_6 ({ frames := 1, cells := 0, slots := 0, locals := 31 } : Room) (va_Pc [.ref (ad 1), .int 1, .int 6] (xPre D (xT y) (mwd y ad zw σ) sz)) (va_Qi (fun (r : Int32) (u : Int32 × (Nat → Int32) × (Nat → Int32) × (Nat → Int32) × (Nat → Int32) × Int32 × Int64 × Int64 × Int32 × Int64 × Int64 × (Nat → Int64) × (Nat → Int64) × (Nat → Int32) × (Nat → Int32) × (Nat → Int32) × (Nat → Int32)) => (((u.2.2.2.1 1).toInt ≠ 0 ∨ (u.1.toInt = (T.length : Int) + 1 ∧ PT (true :: T) u.2.1 (u.2.2.2.2.2.2.2.2.2.2.2.2.2.2.2.2 1).toInt ∧ (u.2.2.1 1).toInt = (σ.2.2.1 63 1).toInt + 1 ∧ u.2.2.2.1 = σ.2.2.1 67)) ∧ opc u.2.2.2.2.2.2.2.2.2.2.2.2.2.1 u.2.2.2.2.2.2.2.2.2.2.2.2.2.2.1 u.2.2.2.2.2.2.2.2.2.2.2.2.2.2.2.1 ∧ (σ.2.2.1 62 1).toInt ≤ (u.2.2.2.2.2.2.2.2.2.2.2.2.2.2.2.2 1).toInt ∧ (u.2.2.2.2.2.2.2.2.2.2.2.2.2.2.2.2 1).toInt - (σ.2.2.1 62 1).toInt ≤ (u.2.2.1 1).toInt - (σ.2.2.1 63 1).toInt ∧ u.2.2.2.2.2.2.2.2.2.2.2.2.2.2.2.2 0 = σ.2.2.1 62 0) ∧ bJ u.2.2.2.2.2.2.2.2.2.2.2.1 (-1000000000) 1000000000 ∧ bJ u.2.2.2.2.2.2.2.2.2.2.2.2.1 0 1000000000 ∧ bI u.2.2.2.2.2.2.2.2.2.2.2.2.2.2.2.2 0 1760 ∧ bI u.2.2.1 0 1000) (fun (u : Int32 × (Nat → Int32) × (Nat → Int32) × (Nat → Int32) × (Nat → Int32) × Int32 × Int64 × Int64 × Int32 × Int64 × Int64 × (Nat → Int64) × (Nat → Int64) × (Nat → Int32) × (Nat → Int32) × (Nat → Int32) × (Nat → Int32)) => xB D (xT y) (va_A (mwd y ad zw σ) sz) (mwd y ad zw (tI (tI (tI (tI (tJ (tJ (sJ (sJ (sI (sJ (sJ (sI (tI (tI (tI (tI (sI σ 73 u.1) 72 u.2.1) 63 u.2.2.1) 67 u.2.2.2.1) 66 u.2.2.2.2.1) 44 u.2.2.2.2.2.1) 42 u.2.2.2.2.2.2.1) 43 u.2.2.2.2.2.2.2.1) 68 u.2.2.2.2.2.2.2.2.1) 69 u.2.2.2.2.2.2.2.2.2.1) 70 u.2.2.2.2.2.2.2.2.2.2.1) 57 u.2.2.2.2.2.2.2.2.2.2.2.1) 58 u.2.2.2.2.2.2.2.2.2.2.2.2.1) 59 u.2.2.2.2.2.2.2.2.2.2.2.2.2.1) 60 u.2.2.2.2.2.2.2.2.2.2.2.2.2.2.1) 61 u.2.2.2.2.2.2.2.2.2.2.2.2.2.2.2.1) 62 u.2.2.2.2.2.2.2.2.2.2.2.2.2.2.2.2))) (va_A (mwd y ad zw σ) sz)) 0 0 (va_A (mwd y ad zw σ) sz) := by
  refine x_meti (cc := cX12_works) (maxL := 15) (by decide) rfl (Nat.le_of_ble_eq_true rfl) ?_
  intro p e s m below meth c A H locs Q hx hb hml hown hts hr hlocks hmn hA hP hK hD hS ls hl hQ
  have hl : lv_has ls 15 [(0, .ref (ad 1)), (1, .int 1), (2, .int 6)] := hl
  have fl142 := hts (.fieldLink RX12 142 "SlopeRunnerModel" "steps" "[I") (List.mem_of_getElem? (i := 1) rfl)
  have inX12 : ∀ w ∈ wsX120, w ∈ v_q_works1_6 := (fun w h => List.mem_cons_of_mem _ (List.mem_append_right _ (List.mem_append_right _ (List.mem_append_right _ h))))
  have kk_1000 : (1000 : Int32).toInt = 1000 := rfl
  have fl160 := hts (.fieldLink RX12 160 "SlopeRunnerModel" "pile" "[I") (List.mem_of_getElem? (i := 2) rfl)
  have fl421 := hts (.fieldLink RX12 421 "SlopeRunnerModel" "piled" "I") (List.mem_of_getElem? (i := 3) rfl)
  have kk_1 : (1 : Int32).toInt = 1 := rfl
  have kk_2 : (2 : Int32).toInt = 2 := rfl
  have fl124 := hts (.fieldLink RX12 124 "SlopeRunnerModel" "valueAbove" "[J") (List.mem_of_getElem? (i := 4) rfl)
  have kk_1760 : (1760 : Int32).toInt = 1760 := rfl
  have fl127 := hts (.fieldLink RX12 127 "SlopeRunnerModel" "valueBelow" "[J") (List.mem_of_getElem? (i := 5) rfl)
  have fl384 := hts (.fieldLink RX12 384 "SlopeRunnerModel" "isStuck" "Z") (List.mem_of_getElem? (i := 6) rfl)
  have kk_6 : (6 : Int32).toInt = 6 := rfl
  have fl139 := hts (.fieldLink RX12 139 "SlopeRunnerModel" "laid" "[I") (List.mem_of_getElem? (i := 7) rfl)
  have fl154 := hts (.fieldLink RX12 154 "SlopeRunnerModel" "state" "[I") (List.mem_of_getElem? (i := 8) rfl)
  have kk_0 : (0 : Int32).toInt = 0 := rfl
  refine lv_aload_n hx hb dX12_works_0 rfl (lv_at hl 0 rfl) ?_
  refine va_get (D := D) (ci := 11) (v := .ref (ad 63)) (C := RX12) (T := TX12) (N := 85) hx hb hts inX12 hown hK hP 0 mwd_o0 rfl 63 (by decide) fl142 (fun _ h9 => h9) rfl dX12_works_1 ?_
  refine lv_iload_n hx hb dX12_works_4 rfl (lv_at hl 1 rfl) ?_
  refine va_iald hx hb hK hP 43 2 mwd_a43 rfl (x_in (by decide) (by decide)) dX12_works_5 ?_
  refine lv_topi (fun i_1 ei_1 => ?_)
  have ei_1 : i_1 = (σ.2.2.1 63) (Int32.toNatClampNeg 1) := ei_1
  have gi_1 : i_1.toInt = (σ.2.2.1 63 1).toInt := by rw [ei_1]; rfl
  have bi_1 := b_at hB63 ei_1
  refine lv_sipush (v := 1000) hx hb dX12_works_6 (by decide) ?_
  refine lv_icmp_ne (tgt := 21) hx hb dX12_works_9 (by decide) (fun c_2 => ?_) (fun c_2 => ?_)
  · have kc_2 : i_1.toInt ≠ 1000 := by have h9 := c_2; simp only [ge_iff_le, gt_iff_lt, x_lt, x_le, x_eq, ne_eq, Int32.not_lt, Int32.not_le] at h9; simp only [Int32.reduceToInt] at h9; omega
    refine lv_iload_n hx hb dX12_works_21 rfl (lv_at hl 2 rfl) ?_
    refine lv_bipush (v := 7) hx hb dX12_works_22 (by decide) ?_
    refine lv_icmp_ne (tgt := 41) hx hb dX12_works_24 (by decide) (fun c_3 => ?_) (fun c_3 => ?_)
    · refine lv_aload_n hx hb dX12_works_41 rfl (lv_at hl 0 rfl) ?_
      refine va_get (D := D) (ci := 11) (v := .ref (ad 72)) (C := RX12) (T := TX12) (N := 85) hx hb hts inX12 hown hK hP 0 mwd_o0 rfl 72 (by decide) fl160 (fun _ h9 => h9) rfl dX12_works_42 ?_
      refine lv_aload_n hx hb dX12_works_45 rfl (lv_at hl 0 rfl) ?_
      refine va_get (D := D) (ci := 11) (v := .int (σ.1 73)) (C := RX12) (T := TX12) (N := 85) hx hb hts inX12 hown hK hP 0 mwd_o0 rfl 73 (by decide) fl421 (fun _ h9 => h9) rfl dX12_works_46 ?_
      refine lv_iconst (v := 1) hx hb dX12_works_49 (by decide) ?_
      refine lv_isub hx hb dX12_works_50 ?_
      refine lv_topi (fun i_4 ei_4 => ?_)
      have vi_4 : i_4.toInt = (σ.1 73).toInt - 1 := by have h9 := x_sub ei_4 (by omega) (by omega); omega
      refine va_iald hx hb hK hP 49 2 mwd_a49 rfl (x_in (by omega) (by omega)) dX12_works_51 ?_
      refine lv_topi (fun i_5 ei_5 => ?_)
      have ei_5 : i_5 = (σ.2.2.1 72) (Int32.toNatClampNeg i_4) := ei_5
      have gi_5 := PT_N hPT ei_5 (x_cl (by simp only [List.length_cons]; omega))
      refine lv_istore_n (lv' := [(3, .int i_5), (0, .ref (ad 1)), (1, .int 1), (2, .int 6)]) hx hb dX12_works_52 rfl hl (by decide) rfl (fun ls hl => ?_)
      refine lv_iload_n hx hb dX12_works_53 rfl (lv_at hl 3 rfl) ?_
      refine lv_bipush (v := 7) hx hb dX12_works_54 (by decide) ?_
      refine lv_icmp_ne (tgt := 63) hx hb dX12_works_56 (by decide) (fun c_6 => ?_) (fun c_6 => ?_)
      · refine lv_aload_n hx hb dX12_works_63 rfl (lv_at hl 1 rfl) ?_
        refine va_get (D := D) (ci := 11) (v := .ref (ad 72)) (C := RX12) (T := TX12) (N := 85) hx hb hts inX12 hown hK hP 0 mwd_o0 rfl 72 (by decide) fl160 (fun _ h9 => h9) rfl dX12_works_64 ?_
        refine lv_aload_n hx hb dX12_works_67 rfl (lv_at hl 1 rfl) ?_
        refine va_get (D := D) (ci := 11) (v := .int (σ.1 73)) (C := RX12) (T := TX12) (N := 85) hx hb hts inX12 hown hK hP 0 mwd_o0 rfl 73 (by decide) fl421 (fun _ h9 => h9) rfl dX12_works_68 ?_
        refine lv_iconst (v := 2) hx hb dX12_works_71 (by decide) ?_
        refine lv_isub hx hb dX12_works_72 ?_
        refine lv_topi (fun i_7 ei_7 => ?_)
        have vi_7 : i_7.toInt = (σ.1 73).toInt - 2 := by have h9 := x_sub ei_7 (by omega) (by omega); omega
        refine va_iald hx hb hK hP 49 2 mwd_a49 rfl (x_in (by omega) (by omega)) dX12_works_73 ?_
        refine lv_topi (fun i_8 ei_8 => ?_)
        have ei_8 : i_8 = (σ.2.2.1 72) (Int32.toNatClampNeg i_7) := ei_8
        have gi_8 := PT_N hPT.2 ei_8 (x_cl (by omega))
        refine lv_istore (lv' := [(4, .int i_8), (3, .int i_5), (0, .ref (ad 1)), (1, .int 1), (2, .int 6)]) hx hb dX12_works_74 hl (by decide) rfl (fun ls hl => ?_)
        refine lv_aload_n hx hb dX12_works_76 rfl (lv_at hl 2 rfl) ?_
        refine va_get (D := D) (ci := 11) (v := .ref (ad 57)) (C := RX12) (T := TX12) (N := 85) hx hb hts inX12 hown hK hP 0 mwd_o0 rfl 57 (by decide) fl124 (fun _ h9 => h9) rfl dX12_works_77 ?_
        refine lv_sipush (v := 1760) hx hb dX12_works_80 (by decide) ?_
        refine lv_iload_n hx hb dX12_works_83 rfl (lv_at hl 3 rfl) ?_
        refine lv_imul hx hb dX12_works_84 ?_
        refine lv_topi (fun i_9 ei_9 => ?_)
        obtain rfl : i_9 = 1760 := ei_9.trans (by decide)
        refine lv_iload hx hb dX12_works_85 (lv_at hl 0 rfl) ?_
        refine lv_iadd hx hb dX12_works_87 ?_
        refine lv_topi (fun i_10 ei_10 => ?_)
        have vi_10 : i_10.toInt = 1760 + i_8.toInt := by have h9 := x_add ei_10 (by omega) (by omega); omega
        refine va_lald hx hb hK hP 37 3 mwd_a37 rfl (x_in (by omega) (by omega)) dX12_works_88 ?_
        refine lv_topl (fun j_11 ej_11 => ?_)
        have ej_11 : j_11 = (σ.2.2.2 57) (Int32.toNatClampNeg i_10) := ej_11
        have bj_11 := b_atJ hB57 ej_11
        refine lv_lstore (lv' := [(5, .long j_11), (4, .int i_8), (3, .int i_5), (0, .ref (ad 1)), (1, .int 1), (2, .int 6)]) hx hb dX12_works_89 hl (by decide) rfl (fun ls hl => ?_)
        refine lv_aload_n hx hb dX12_works_91 rfl (lv_at hl 3 rfl) ?_
        refine va_get (D := D) (ci := 11) (v := .ref (ad 58)) (C := RX12) (T := TX12) (N := 85) hx hb hts inX12 hown hK hP 0 mwd_o0 rfl 58 (by decide) fl127 (fun _ h9 => h9) rfl dX12_works_92 ?_
        refine lv_sipush (v := 1760) hx hb dX12_works_95 (by decide) ?_
        refine lv_iload_n hx hb dX12_works_98 rfl (lv_at hl 4 rfl) ?_
        refine lv_imul hx hb dX12_works_99 ?_
        refine lv_topi (fun i_12 ei_12 => ?_)
        obtain rfl : i_12 = 1760 := ei_12.trans (by decide)
        refine lv_iload hx hb dX12_works_100 (lv_at hl 1 rfl) ?_
        refine lv_iadd hx hb dX12_works_102 ?_
        refine lv_topi (fun i_13 ei_13 => ?_)
        have vi_13 : i_13.toInt = 1760 + i_8.toInt := by have h9 := x_add ei_13 (by omega) (by omega); omega
        refine va_lald hx hb hK hP 38 3 mwd_a38 rfl (x_in (by omega) (by omega)) dX12_works_103 ?_
        refine lv_topl (fun j_14 ej_14 => ?_)
        have ej_14 : j_14 = (σ.2.2.2 58) (Int32.toNatClampNeg i_13) := ej_14
        have bj_14 := b_atJ hB58 ej_14
        refine lv_lstore (lv' := [(7, .long j_14), (5, .long j_11), (4, .int i_8), (3, .int i_5), (0, .ref (ad 1)), (1, .int 1), (2, .int 6)]) hx hb dX12_works_104 hl (by decide) rfl (fun ls hl => ?_)
        refine lv_aload_n hx hb dX12_works_106 rfl (lv_at hl 4 rfl) ?_
        refine va_get (D := D) (ci := 11) (v := .ref (ad 57)) (C := RX12) (T := TX12) (N := 85) hx hb hts inX12 hown hK hP 0 mwd_o0 rfl 57 (by decide) fl124 (fun _ h9 => h9) rfl dX12_works_107 ?_
        refine lv_sipush (v := 1760) hx hb dX12_works_110 (by decide) ?_
        refine lv_iload_n hx hb dX12_works_113 rfl (lv_at hl 5 rfl) ?_
        refine lv_imul hx hb dX12_works_114 ?_
        refine lv_topi (fun i_15 ei_15 => ?_)
        obtain rfl : i_15 = 1760 := ei_15.trans (by decide)
        refine lv_iload_n hx hb dX12_works_115 rfl (lv_at hl 3 rfl) ?_
        refine lv_iadd hx hb dX12_works_116 ?_
        refine lv_topi (fun i_16 ei_16 => ?_)
        have vi_16 : i_16.toInt = 1760 + i_5.toInt := by have h9 := x_add ei_16 (by omega) (by omega); omega
        refine va_lald hx hb hK hP 37 3 mwd_a37 rfl (x_in (by omega) (by omega)) dX12_works_117 ?_
        refine lv_topl (fun j_17 ej_17 => ?_)
        have ej_17 : j_17 = (σ.2.2.2 57) (Int32.toNatClampNeg i_16) := ej_17
        have bj_17 := b_atJ hB57 ej_17
        refine lv_lstore (lv' := [(9, .long j_17), (7, .long j_14), (5, .long j_11), (4, .int i_8), (3, .int i_5), (0, .ref (ad 1)), (1, .int 1), (2, .int 6)]) hx hb dX12_works_118 hl (by decide) rfl (fun ls hl => ?_)
        refine lv_aload_n hx hb dX12_works_120 rfl (lv_at hl 5 rfl) ?_
        refine va_get (D := D) (ci := 11) (v := .ref (ad 58)) (C := RX12) (T := TX12) (N := 85) hx hb hts inX12 hown hK hP 0 mwd_o0 rfl 58 (by decide) fl127 (fun _ h9 => h9) rfl dX12_works_121 ?_
        refine lv_sipush (v := 1760) hx hb dX12_works_124 (by decide) ?_
        refine lv_iload_n hx hb dX12_works_127 rfl (lv_at hl 6 rfl) ?_
        refine lv_imul hx hb dX12_works_128 ?_
        refine lv_topi (fun i_18 ei_18 => ?_)
        obtain rfl : i_18 = 1760 := ei_18.trans (by decide)
        refine lv_iload_n hx hb dX12_works_129 rfl (lv_at hl 4 rfl) ?_
        refine lv_iadd hx hb dX12_works_130 ?_
        refine lv_topi (fun i_19 ei_19 => ?_)
        have vi_19 : i_19.toInt = 1760 + i_5.toInt := by have h9 := x_add ei_19 (by omega) (by omega); omega
        refine va_lald hx hb hK hP 38 3 mwd_a38 rfl (x_in (by omega) (by omega)) dX12_works_131 ?_
        refine lv_topl (fun j_20 ej_20 => ?_)
        have ej_20 : j_20 = (σ.2.2.2 58) (Int32.toNatClampNeg i_19) := ej_20
        have bj_20 := b_atJ hB58 ej_20
        refine lv_lstore (lv' := [(11, .long j_20), (9, .long j_17), (7, .long j_14), (5, .long j_11), (4, .int i_8), (3, .int i_5), (0, .ref (ad 1)), (1, .int 1), (2, .int 6)]) hx hb dX12_works_132 hl (by decide) rfl (fun ls hl => ?_)
        refine lv_lload hx hb dX12_works_134 (lv_at hl 3 rfl) ?_
        refine lv_lload hx hb dX12_works_136 (lv_at hl 0 rfl) ?_
        refine lv_lmul hx hb dX12_works_138 ?_
        refine lv_topl (fun j_21 ej_21 => ?_)
        have vj_21 := x_mulB ej_21 (by omega) (by omega) (by omega) (by omega)
        refine lv_lload hx hb dX12_works_139 (lv_at hl 1 rfl) ?_
        refine lv_lload hx hb dX12_works_141 (lv_at hl 2 rfl) ?_
        refine lv_lmul hx hb dX12_works_143 ?_
        refine lv_topl (fun j_22 ej_22 => ?_)
        have vj_22 := x_mulB ej_22 (by omega) (by omega) (by omega) (by omega)
        refine W.lcmp hx hb dX12_works_144 ?_
        refine lv_if_ge (tgt := 152) hx hb dX12_works_145 (by decide) (fun c_23 => ?_) (fun c_23 => ?_)
        · have kc_23 : j_21.toInt ≥ j_22.toInt := by have h9 := x_tri j_21 j_22; (try simp only [Int64.reduceToInt] at h9); rcases h9 with ⟨g1, g2⟩ | ⟨g1, g2⟩ | ⟨g1, g2⟩ <;> first | omega | (exfalso; rw [g1] at c_23; revert c_23; decide)
          refine lv_iconst (v := 0) hx hb dX12_works_152 (by decide) ?_
          refine lv_istore (lv' := [(13, .int 0), (11, .long j_20), (9, .long j_17), (7, .long j_14), (5, .long j_11), (4, .int i_8), (3, .int i_5), (0, .ref (ad 1)), (1, .int 1), (2, .int 6)]) hx hb dX12_works_153 hl (by decide) rfl (fun ls hl => ?_)
          refine lv_aload_n hx hb dX12_works_155 rfl (lv_at hl 7 rfl) ?_
          refine lv_iconst (v := 0) hx hb dX12_works_156 (by decide) ?_
          refine va_put (D := D) (ci := 11) (v := .int 0) (ty := .boolean) (C := RX12) (T := TX12) (N := 85) hx hb hts inX12 tyX12 tyX12_ok nmX12 hown hK hP hD hS 0 mwd_o0 rfl 44 (by decide) fl384 (fun _ h9 => h9) rfl (by decide +kernel) rfl rfl (Nat.le_of_ble_eq_true rfl) dX12_works_157 (fun H locs hP hD hS => ?_)
          have hP : va_P D vwCl (mwd y ad zw (sI σ 44 0)) H := x_trP hP mwd_p0_44
          have hD : va_D A (mwd y ad zw (sI σ 44 0)) := x_trD hD mwd_p0_44
          refine lv_iload_n hx hb dX12_works_160 rfl (lv_at hl 9 rfl) ?_
          refine lv_tableOut (tgt := 252) hx hb dX12_works_161 (by decide) (by decide) ?_
          refine lv_aload_n hx hb dX12_works_252 rfl (lv_at hl 7 rfl) ?_
          refine va_get (D := D) (ci := 11) (v := .int 0) (C := RX12) (T := TX12) (N := 85) hx hb hts inX12 hown hK hP 0 mwd_o0 rfl 44 (by decide) fl384 (fun _ h9 => h9) rfl dX12_works_253 ?_
          refine lv_if_eq (tgt := 268) hx hb dX12_works_256 (by decide) (fun c_25 => ?_) (fun c_25 => ?_)
          · refine lv_aload_n hx hb dX12_works_268 rfl (lv_at hl 7 rfl) ?_
            refine va_get (D := D) (ci := 11) (v := .ref (ad 63)) (C := RX12) (T := TX12) (N := 85) hx hb hts inX12 hown hK hP 0 mwd_o0 rfl 63 (by decide) fl142 (fun _ h9 => h9) rfl dX12_works_269 ?_
            refine lv_iload_n hx hb dX12_works_272 rfl (lv_at hl 8 rfl) ?_
            refine lv_dup2_11 hx hb dX12_works_273 rfl rfl ?_
            refine va_iald hx hb hK hP 43 2 mwd_a43 rfl (x_in (by decide) (by decide)) dX12_works_274 ?_
            refine lv_topi (fun i_26 ei_26 => ?_)
            have ei_26 : i_26 = (σ.2.2.1 63) (Int32.toNatClampNeg 1) := ei_26
            have gi_26 : i_26.toInt = (σ.2.2.1 63 1).toInt := by rw [ei_26]; rfl
            have bi_26 := b_at hB63 ei_26
            refine lv_iconst (v := 1) hx hb dX12_works_275 (by decide) ?_
            refine lv_iadd hx hb dX12_works_276 ?_
            refine lv_topi (fun i_27 ei_27 => ?_)
            have vi_27 : i_27.toInt = i_26.toInt + 1 := by have h9 := x_add ei_27 (by omega) (by omega); omega
            refine va_iast hx hb hK hP hD hS 43 2 mwd_a43 rfl (x_in (by decide) (by decide)) dX12_works_277 (fun H locs hP hD hS => ?_)
            obtain ⟨f_28, ef_28⟩ : ∃ z9 : Nat → Int32, z9 = (upd (σ.2.2.1 63) (Int32.toNatClampNeg 1) i_27) := ⟨_, rfl⟩
            have hP : va_P D vwCl (mwd y ad zw (tI (sI σ 44 0) 63 f_28)) H := by rw [ef_28]; exact x_trP hP mwd_s43
            have hD : va_D A (mwd y ad zw (tI (sI σ 44 0) 63 f_28)) := by rw [ef_28]; exact x_trD hD mwd_s43
            have hvf_28 : bI f_28 0 1000 := by rw [ef_28]; exact b_upd hB63 (by omega) (by omega)
            have sf_28 : (f_28 1).toInt = i_27.toInt := by rw [ef_28]; exact congrArg Int32.toInt (x_upd_same _ 1 _)
            refine lv_aload_n hx hb dX12_works_278 rfl (lv_at hl 7 rfl) ?_
            refine lv_dup hx hb dX12_works_279 rfl ?_
            refine va_get (D := D) (ci := 11) (v := .int (σ.1 73)) (C := RX12) (T := TX12) (N := 85) hx hb hts inX12 hown hK hP 0 mwd_o0 rfl 73 (by decide) fl421 (fun _ h9 => h9) rfl dX12_works_280 ?_
            refine lv_iload_n hx hb dX12_works_283 rfl (lv_at hl 9 rfl) ?_
            refine lv_bipush (v := 7) hx hb dX12_works_284 (by decide) ?_
            refine lv_icmp_ne (tgt := 293) hx hb dX12_works_286 (by decide) (fun c_29 => ?_) (fun c_29 => ?_)
            · refine lv_iconst (v := 2) hx hb dX12_works_293 (by decide) ?_
              refine lv_isub hx hb dX12_works_294 ?_
              refine lv_topi (fun i_30 ei_30 => ?_)
              have vi_30 : i_30.toInt = (σ.1 73).toInt - 2 := by have h9 := x_sub ei_30 (by omega) (by omega); omega
              refine va_put (D := D) (ci := 11) (v := .int i_30) (ty := .int) (C := RX12) (T := TX12) (N := 85) hx hb hts inX12 tyX12 tyX12_ok nmX12 hown hK hP hD hS 0 mwd_o0 rfl 73 (by decide) fl421 (fun _ h9 => h9) rfl (by decide +kernel) rfl rfl (Nat.le_of_ble_eq_true rfl) dX12_works_295 (fun H locs hP hD hS => ?_)
              have hP : va_P D vwCl (mwd y ad zw (sI (tI (sI σ 44 0) 63 f_28) 73 i_30)) H := x_trP hP mwd_p0_73
              have hD : va_D A (mwd y ad zw (sI (tI (sI σ 44 0) 63 f_28) 73 i_30)) := x_trD hD mwd_p0_73
              refine lv_iload_n hx hb dX12_works_298 rfl (lv_at hl 9 rfl) ?_
              refine lv_iconst (v := 4) hx hb dX12_works_299 (by decide) ?_
              refine lv_icmp_gt (tgt := 340) hx hb dX12_works_300 (by decide) (fun c_31 => ?_) (fun c_31 => ?_)
              · refine lv_iload_n hx hb dX12_works_340 rfl (lv_at hl 9 rfl) ?_
                refine lv_bipush (v := 7) hx hb dX12_works_341 (by decide) ?_
                refine lv_icmp_ne (tgt := 394) hx hb dX12_works_343 (by decide) (fun c_32 => ?_) (fun c_32 => ?_)
                · refine lv_iload_n hx hb dX12_works_394 rfl (lv_at hl 9 rfl) ?_
                  refine lv_iconst (v := 5) hx hb dX12_works_395 (by decide) ?_
                  refine lv_icmp_eq (tgt := 405) hx hb dX12_works_396 (by decide) (fun c_33 => ?_) (fun c_33 => ?_)
                  · exact absurd c_33 (by decide)
                  · refine lv_iload_n hx hb dX12_works_399 rfl (lv_at hl 9 rfl) ?_
                    refine lv_bipush (v := 6) hx hb dX12_works_400 (by decide) ?_
                    refine lv_icmp_ne (tgt := 538) hx hb dX12_works_402 (by decide) (fun c_34 => ?_) (fun c_34 => ?_)
                    · exact absurd (by decide) c_34
                    · refine lv_aload_n hx hb dX12_works_405 rfl (lv_at hl 7 rfl) ?_
                      refine lv_iload_n hx hb dX12_works_406 rfl (lv_at hl 8 rfl) ?_
                      refine lv_lload hx hb dX12_works_407 (lv_at hl 4 rfl) ?_
                      refine lv_lload hx hb dX12_works_409 (lv_at hl 3 rfl) ?_
                      refine lv_lload hx hb dX12_works_411 (lv_at hl 2 rfl) ?_
                      refine lv_lload hx hb dX12_works_413 (lv_at hl 1 rfl) ?_
                      refine x_callvW (va_runV (As := [.int 1, .long j_11, .long j_14, .long j_17, .long j_20]) (rest := []) ⟨hx, hb, hml, hown, hts⟩ (q_nears1 l D y H.size ad zw (sI (tI (sI σ 44 0) 63 f_28) 73 i_30) j_11 j_14 j_17 j_20 (by first | omega | decide) (by first | omega | decide) (by first | omega | decide) (by first | omega | decide) (by first | omega | decide) (by first | omega | decide) (by first | omega | decide) (by first | omega | decide)) (cwV 5 hts g_q_works1_6_0 rfl rfl rfl (by decide +kernel) ⟨Nat.le_of_ble_eq_true rfl, Nat.le_of_ble_eq_true rfl⟩) (x_preV (q := (RX12, TX12, 85)) hK hP hD (ci := 11) (q0 := 0) rfl mwd_o0) rfl rfl hl.1 rfl (lv_room (Nat.le_of_ble_eq_true rfl)) dX12_works_415 ⟨Nat.le_of_ble_eq_true rfl, Nat.le_of_ble_eq_true rfl⟩) hP hD hS hA (fun u H locs hw hP hD hS => ?_)
                      obtain ⟨f_35, n_36, j_37, j_38, n_39, j_40, j_41⟩ := u
                      try dsimp only at hw
                      have hP : va_P D vwCl (mwd y ad zw (sJ (sJ (sI (sJ (sJ (sI (tI (sI (tI (sI σ 44 0) 63 f_28) 73 i_30) 66 f_35) 44 n_36) 42 j_37) 43 j_38) 68 n_39) 69 j_40) 70 j_41)) H := hP
                      have hD : va_D A (mwd y ad zw (sJ (sJ (sI (sJ (sJ (sI (tI (sI (tI (sI σ 44 0) 63 f_28) 73 i_30) 66 f_35) 44 n_36) 42 j_37) 43 j_38) 68 n_39) 69 j_40) 70 j_41)) := hD
                      have hw : True := hw
                      refine lv_iload_n hx hb dX12_works_418 rfl (lv_at hl 9 rfl) ?_
                      refine lv_iconst (v := 5) hx hb dX12_works_419 (by decide) ?_
                      refine lv_icmp_ne (tgt := 445) hx hb dX12_works_420 (by decide) (fun c_42 => ?_) (fun c_42 => ?_)
                      · refine lv_lload hx hb dX12_works_445 (lv_at hl 2 rfl) ?_
                        refine lv_lload hx hb dX12_works_447 (lv_at hl 3 rfl) ?_
                        refine lv_lmul hx hb dX12_works_449 ?_
                        refine lv_topl (fun j_43 ej_43 => ?_)
                        have vj_43 := x_mulB ej_43 (by omega) (by omega) (by omega) (by omega)
                        refine lv_lload hx hb dX12_works_450 (lv_at hl 4 rfl) ?_
                        refine lv_lload hx hb dX12_works_452 (lv_at hl 1 rfl) ?_
                        refine lv_lmul hx hb dX12_works_454 ?_
                        refine lv_topl (fun j_44 ej_44 => ?_)
                        have vj_44 := x_mulB ej_44 (by omega) (by omega) (by omega) (by omega)
                        refine W.lcmp hx hb dX12_works_455 ?_
                        refine lv_if_le (tgt := 463) hx hb dX12_works_456 (by decide) (fun c_45 => ?_) (fun c_45 => ?_)
                        · have kc_45 : j_43.toInt ≤ j_44.toInt := by have h9 := x_tri j_43 j_44; (try simp only [Int64.reduceToInt] at h9); rcases h9 with ⟨g1, g2⟩ | ⟨g1, g2⟩ | ⟨g1, g2⟩ <;> first | omega | (exfalso; rw [g1] at c_45; revert c_45; decide)
                          refine lv_iconst (v := 0) hx hb dX12_works_463 (by decide) ?_
                          refine lv_istore (lv' := [(14, .int 0), (13, .int 0), (11, .long j_20), (9, .long j_17), (7, .long j_14), (5, .long j_11), (4, .int i_8), (3, .int i_5), (0, .ref (ad 1)), (1, .int 1), (2, .int 6)]) hx hb dX12_works_464 hl (by decide) rfl (fun ls hl => ?_)
                          refine lv_aload_n hx hb dX12_works_466 rfl (lv_at hl 8 rfl) ?_
                          refine lv_iload_n hx hb dX12_works_467 rfl (lv_at hl 9 rfl) ?_
                          refine lv_iload hx hb dX12_works_468 (lv_at hl 0 rfl) ?_
                          refine lv_if_eq (tgt := 478) hx hb dX12_works_470 (by decide) (fun c_46 => ?_) (fun c_46 => ?_)
                          · refine lv_lload hx hb dX12_works_478 (lv_at hl 5 rfl) ?_
                            refine lv_iload hx hb dX12_works_480 (lv_at hl 0 rfl) ?_
                            refine lv_if_eq (tgt := 490) hx hb dX12_works_482 (by decide) (fun c_47 => ?_) (fun c_47 => ?_)
                            · refine lv_lload hx hb dX12_works_490 (lv_at hl 4 rfl) ?_
                              refine lv_iload_n hx hb dX12_works_492 rfl (lv_at hl 10 rfl) ?_
                              refine lv_iload hx hb dX12_works_493 (lv_at hl 0 rfl) ?_
                              refine lv_if_eq (tgt := 502) hx hb dX12_works_495 (by decide) (fun c_48 => ?_) (fun c_48 => ?_)
                              · refine lv_iload hx hb dX12_works_502 (lv_at hl 6 rfl) ?_
                                refine lv_iload hx hb dX12_works_504 (lv_at hl 0 rfl) ?_
                                refine lv_if_eq (tgt := 513) hx hb dX12_works_506 (by decide) (fun c_49 => ?_) (fun c_49 => ?_)
                                · refine lv_iload hx hb dX12_works_513 (lv_at hl 6 rfl) ?_
                                  refine x_callvW (va_runV (As := [.int 1, .long j_11, .long j_14, .int 6, .int i_8, .int i_8]) (rest := []) ⟨hx, hb, hml, hown, hts⟩ (q_lays1 l D y H.size ad zw (sJ (sJ (sI (sJ (sJ (sI (tI (sI (tI (sI σ 44 0) 63 f_28) 73 i_30) 66 f_35) 44 n_36) 42 j_37) 43 j_38) 68 n_39) 69 j_40) 70 j_41) j_11 j_14 6 i_8 i_8 (by first | omega | decide) (by first | omega | decide) (by first | omega | decide) (by first | omega | decide) hop (fun _ => by omega) (show 0 ≤ ((σ.2.2.1 62) 1).toInt from by first | omega | decide) (show ((σ.2.2.1 62) 1).toInt < 1760 from by first | omega | decide) hB57 hB58 hB62) (cwV 6 hts g_q_works1_6_1 rfl rfl rfl (by decide +kernel) ⟨Nat.le_of_ble_eq_true rfl, Nat.le_of_ble_eq_true rfl⟩) (x_preV (q := (RX12, TX12, 85)) hK hP hD (ci := 11) (q0 := 0) rfl mwd_o0) rfl rfl hl.1 rfl (lv_room (Nat.le_of_ble_eq_true rfl)) dX12_works_515 ⟨Nat.le_of_ble_eq_true rfl, Nat.le_of_ble_eq_true rfl⟩) hP hD hS hA (fun u H locs hw hP hD hS => ?_)
                                  obtain ⟨f_50, f_51, f_52, f_53, f_54, f_55⟩ := u
                                  try dsimp only at hw
                                  have hP : va_P D vwCl (mwd y ad zw (tI (tI (tI (tI (tJ (tJ (sJ (sJ (sI (sJ (sJ (sI (tI (sI (tI (sI σ 44 0) 63 f_28) 73 i_30) 66 f_35) 44 n_36) 42 j_37) 43 j_38) 68 n_39) 69 j_40) 70 j_41) 57 f_50) 58 f_51) 59 f_52) 60 f_53) 61 f_54) 62 f_55)) H := hP
                                  have hD : va_D A (mwd y ad zw (tI (tI (tI (tI (tJ (tJ (sJ (sJ (sI (sJ (sJ (sI (tI (sI (tI (sI σ 44 0) 63 f_28) 73 i_30) 66 f_35) 44 n_36) 42 j_37) 43 j_38) 68 n_39) 69 j_40) 70 j_41) 57 f_50) 58 f_51) 59 f_52) 60 f_53) 61 f_54) 62 f_55)) := hD
                                  have hw : (opc f_52 f_53 f_54 ∧ (f_55 1).toInt = ((σ.2.2.1 62) 1).toInt + 1 ∧ f_55 0 = (σ.2.2.1 62) 0) ∧ bJ f_50 (-1000000000) 1000000000 ∧ bJ f_51 0 1000000000 ∧ bI f_55 0 1760 := hw
                                  obtain ⟨hw, hg_56, hg_57, hg_58⟩ := hw
                                  obtain ⟨ho9, hl9, hl8⟩ := hw
                                  refine lv_aload_n hx hb dX12_works_518 rfl (lv_at hl 8 rfl) ?_
                                  refine va_get (D := D) (ci := 11) (v := .ref (ad 72)) (C := RX12) (T := TX12) (N := 85) hx hb hts inX12 hown hK hP 0 mwd_o0 rfl 72 (by decide) fl160 (fun _ h9 => h9) rfl dX12_works_519 ?_
                                  refine lv_aload_n hx hb dX12_works_522 rfl (lv_at hl 8 rfl) ?_
                                  refine va_get (D := D) (ci := 11) (v := .int i_30) (C := RX12) (T := TX12) (N := 85) hx hb hts inX12 hown hK hP 0 mwd_o0 rfl 73 (by decide) fl421 (fun _ h9 => h9) rfl dX12_works_523 ?_
                                  refine lv_aload_n hx hb dX12_works_526 rfl (lv_at hl 8 rfl) ?_
                                  refine va_get (D := D) (ci := 11) (v := .ref (ad 62)) (C := RX12) (T := TX12) (N := 85) hx hb hts inX12 hown hK hP 0 mwd_o0 rfl 62 (by decide) fl139 (fun _ h9 => h9) rfl dX12_works_527 ?_
                                  refine lv_iload_n hx hb dX12_works_530 rfl (lv_at hl 9 rfl) ?_
                                  refine va_iald hx hb hK hP 42 2 mwd_a42 rfl (x_in (by decide) (by decide)) dX12_works_531 ?_
                                  refine lv_topi (fun i_59 ei_59 => ?_)
                                  have ei_59 : i_59 = f_55 (Int32.toNatClampNeg 1) := ei_59
                                  have gi_59 : i_59.toInt = (f_55 1).toInt := by rw [ei_59]; rfl
                                  have bi_59 := b_at hg_58 ei_59
                                  refine lv_iconst (v := 1) hx hb dX12_works_532 (by decide) ?_
                                  refine lv_isub hx hb dX12_works_533 ?_
                                  refine lv_topi (fun i_60 ei_60 => ?_)
                                  have vi_60 : i_60.toInt = i_59.toInt - 1 := by have h9 := x_sub ei_60 (by omega) (by omega); omega
                                  refine va_iast hx hb hK hP hD hS 49 2 mwd_a49 rfl (x_in (by omega) (by omega)) dX12_works_534 (fun H locs hP hD hS => ?_)
                                  obtain ⟨f_61, ef_61⟩ : ∃ z9 : Nat → Int32, z9 = (upd (σ.2.2.1 72) (Int32.toNatClampNeg i_30) i_60) := ⟨_, rfl⟩
                                  have hP : va_P D vwCl (mwd y ad zw (tI (tI (tI (tI (tI (tJ (tJ (sJ (sJ (sI (sJ (sJ (sI (tI (sI (tI (sI σ 44 0) 63 f_28) 73 i_30) 66 f_35) 44 n_36) 42 j_37) 43 j_38) 68 n_39) 69 j_40) 70 j_41) 57 f_50) 58 f_51) 59 f_52) 60 f_53) 61 f_54) 62 f_55) 72 f_61)) H := by rw [ef_61]; exact x_trP hP mwd_s49
                                  have hD : va_D A (mwd y ad zw (tI (tI (tI (tI (tI (tJ (tJ (sJ (sJ (sI (sJ (sJ (sI (tI (sI (tI (sI σ 44 0) 63 f_28) 73 i_30) 66 f_35) 44 n_36) 42 j_37) 43 j_38) 68 n_39) 69 j_40) 70 j_41) 57 f_50) 58 f_51) 59 f_52) 60 f_53) 61 f_54) 62 f_55) 72 f_61)) := by rw [ef_61]; exact x_trD hD mwd_s49
                                  have pf_61 : PT (true :: T) f_61 (f_55 1).toInt := by rw [ef_61]; exact PT_pushN (PT_mono (by omega) hPT.2.2) (x_cl (by omega)) (by omega) (by omega)
                                  refine lv_goto (tgt := 626) hx hb dX12_works_535 (by decide) ?_
                                  refine lv_aload_n hx hb dX12_works_626 rfl (lv_at hl 8 rfl) ?_
                                  refine lv_dup hx hb dX12_works_627 rfl ?_
                                  refine va_get (D := D) (ci := 11) (v := .int i_30) (C := RX12) (T := TX12) (N := 85) hx hb hts inX12 hown hK hP 0 mwd_o0 rfl 73 (by decide) fl421 (fun _ h9 => h9) rfl dX12_works_628 ?_
                                  refine lv_iconst (v := 1) hx hb dX12_works_631 (by decide) ?_
                                  refine lv_iadd hx hb dX12_works_632 ?_
                                  refine lv_topi (fun i_62 ei_62 => ?_)
                                  have vi_62 : i_62.toInt = i_30.toInt + 1 := by have h9 := x_add ei_62 (by omega) (by omega); omega
                                  refine va_put (D := D) (ci := 11) (v := .int i_62) (ty := .int) (C := RX12) (T := TX12) (N := 85) hx hb hts inX12 tyX12 tyX12_ok nmX12 hown hK hP hD hS 0 mwd_o0 rfl 73 (by decide) fl421 (fun _ h9 => h9) rfl (by decide +kernel) rfl rfl (Nat.le_of_ble_eq_true rfl) dX12_works_633 (fun H locs hP hD hS => ?_)
                                  have hP : va_P D vwCl (mwd y ad zw (sI (tI (tI (tI (tI (tI (tJ (tJ (sJ (sJ (sI (sJ (sJ (sI (tI (sI (tI (sI σ 44 0) 63 f_28) 73 i_30) 66 f_35) 44 n_36) 42 j_37) 43 j_38) 68 n_39) 69 j_40) 70 j_41) 57 f_50) 58 f_51) 59 f_52) 60 f_53) 61 f_54) 62 f_55) 72 f_61) 73 i_62)) H := x_trP hP mwd_p0_73
                                  have hD : va_D A (mwd y ad zw (sI (tI (tI (tI (tI (tI (tJ (tJ (sJ (sJ (sI (sJ (sJ (sI (tI (sI (tI (sI σ 44 0) 63 f_28) 73 i_30) 66 f_35) 44 n_36) 42 j_37) 43 j_38) 68 n_39) 69 j_40) 70 j_41) 57 f_50) 58 f_51) 59 f_52) 60 f_53) 61 f_54) 62 f_55) 72 f_61) 73 i_62)) := x_trD hD mwd_p0_73
                                  refine lv_iconst (v := 1) hx hb dX12_works_636 (by decide) ?_
                                  have hP : va_P D vwCl (mwd y ad zw (tI (tI (tI (tI (tJ (tJ (sJ (sJ (sI (sJ (sJ (sI (tI (tI (tI (tI (sI σ 73 i_62) 72 f_61) 63 f_28) 67 (σ.2.2.1 67)) 66 f_35) 44 n_36) 42 j_37) 43 j_38) 68 n_39) 69 j_40) 70 j_41) 57 f_50) 58 f_51) 59 f_52) 60 f_53) 61 f_54) 62 f_55)) H := hP
                                  have hD : va_D A (mwd y ad zw (tI (tI (tI (tI (tJ (tJ (sJ (sJ (sI (sJ (sJ (sI (tI (tI (tI (tI (sI σ 73 i_62) 72 f_61) 63 f_28) 67 (σ.2.2.1 67)) 66 f_35) 44 n_36) 42 j_37) 43 j_38) 68 n_39) 69 j_40) 70 j_41) 57 f_50) 58 f_51) 59 f_52) 60 f_53) 61 f_54) 62 f_55)) := hD
                                  exact x_zretW (v := 1) (u := (i_62, f_61, f_28, (σ.2.2.1 67), f_35, n_36, j_37, j_38, n_39, j_40, j_41, f_50, f_51, f_52, f_53, f_54, f_55)) hx hb hr hQ rfl (by (try dsimp only); exact ⟨⟨Or.inr ⟨by omega, pf_61, by omega, rfl⟩, ho9, by omega, by omega, hl8⟩, hg_56, hg_57, hg_58, hvf_28⟩) hP hD hK hS dX12_works_637 hlocks
                                · exact absurd (by decide) c_49
                              · exact absurd (by decide) c_48
                            · exact absurd (by decide) c_47
                          · exact absurd (by decide) c_46
                        · have kc_45 : j_43.toInt > j_44.toInt := by have h9 := x_tri j_43 j_44; (try simp only [Int64.reduceToInt] at h9); rcases h9 with ⟨g1, g2⟩ | ⟨g1, g2⟩ | ⟨g1, g2⟩ <;> first | omega | (exfalso; rw [g1] at c_45; revert c_45; decide)
                          refine lv_iconst (v := 1) hx hb dX12_works_459 (by decide) ?_
                          refine lv_goto (tgt := 464) hx hb dX12_works_460 (by decide) ?_
                          refine lv_istore (lv' := [(14, .int 1), (13, .int 0), (11, .long j_20), (9, .long j_17), (7, .long j_14), (5, .long j_11), (4, .int i_8), (3, .int i_5), (0, .ref (ad 1)), (1, .int 1), (2, .int 6)]) hx hb dX12_works_464 hl (by decide) rfl (fun ls hl => ?_)
                          refine lv_aload_n hx hb dX12_works_466 rfl (lv_at hl 8 rfl) ?_
                          refine lv_iload_n hx hb dX12_works_467 rfl (lv_at hl 9 rfl) ?_
                          refine lv_iload hx hb dX12_works_468 (lv_at hl 0 rfl) ?_
                          refine lv_if_eq (tgt := 478) hx hb dX12_works_470 (by decide) (fun c_63 => ?_) (fun c_63 => ?_)
                          · exact absurd c_63 (by decide)
                          · refine lv_lload hx hb dX12_works_473 (lv_at hl 3 rfl) ?_
                            refine lv_goto (tgt := 480) hx hb dX12_works_475 (by decide) ?_
                            refine lv_iload hx hb dX12_works_480 (lv_at hl 0 rfl) ?_
                            refine lv_if_eq (tgt := 490) hx hb dX12_works_482 (by decide) (fun c_64 => ?_) (fun c_64 => ?_)
                            · exact absurd c_64 (by decide)
                            · refine lv_lload hx hb dX12_works_485 (lv_at hl 2 rfl) ?_
                              refine lv_goto (tgt := 492) hx hb dX12_works_487 (by decide) ?_
                              refine lv_iload_n hx hb dX12_works_492 rfl (lv_at hl 10 rfl) ?_
                              refine lv_iload hx hb dX12_works_493 (lv_at hl 0 rfl) ?_
                              refine lv_if_eq (tgt := 502) hx hb dX12_works_495 (by decide) (fun c_65 => ?_) (fun c_65 => ?_)
                              · exact absurd c_65 (by decide)
                              · refine lv_iload_n hx hb dX12_works_498 rfl (lv_at hl 7 rfl) ?_
                                refine lv_goto (tgt := 504) hx hb dX12_works_499 (by decide) ?_
                                refine lv_iload hx hb dX12_works_504 (lv_at hl 0 rfl) ?_
                                refine lv_if_eq (tgt := 513) hx hb dX12_works_506 (by decide) (fun c_66 => ?_) (fun c_66 => ?_)
                                · exact absurd c_66 (by decide)
                                · refine lv_iload_n hx hb dX12_works_509 rfl (lv_at hl 7 rfl) ?_
                                  refine lv_goto (tgt := 515) hx hb dX12_works_510 (by decide) ?_
                                  refine x_callvW (va_runV (As := [.int 1, .long j_17, .long j_20, .int 6, .int i_5, .int i_5]) (rest := []) ⟨hx, hb, hml, hown, hts⟩ (q_lays1 l D y H.size ad zw (sJ (sJ (sI (sJ (sJ (sI (tI (sI (tI (sI σ 44 0) 63 f_28) 73 i_30) 66 f_35) 44 n_36) 42 j_37) 43 j_38) 68 n_39) 69 j_40) 70 j_41) j_17 j_20 6 i_5 i_5 (by first | omega | decide) (by first | omega | decide) (by first | omega | decide) (by first | omega | decide) hop (fun _ => by omega) (show 0 ≤ ((σ.2.2.1 62) 1).toInt from by first | omega | decide) (show ((σ.2.2.1 62) 1).toInt < 1760 from by first | omega | decide) hB57 hB58 hB62) (cwV 6 hts g_q_works1_6_1 rfl rfl rfl (by decide +kernel) ⟨Nat.le_of_ble_eq_true rfl, Nat.le_of_ble_eq_true rfl⟩) (x_preV (q := (RX12, TX12, 85)) hK hP hD (ci := 11) (q0 := 0) rfl mwd_o0) rfl rfl hl.1 rfl (lv_room (Nat.le_of_ble_eq_true rfl)) dX12_works_515 ⟨Nat.le_of_ble_eq_true rfl, Nat.le_of_ble_eq_true rfl⟩) hP hD hS hA (fun u H locs hw hP hD hS => ?_)
                                  obtain ⟨f_67, f_68, f_69, f_70, f_71, f_72⟩ := u
                                  try dsimp only at hw
                                  have hP : va_P D vwCl (mwd y ad zw (tI (tI (tI (tI (tJ (tJ (sJ (sJ (sI (sJ (sJ (sI (tI (sI (tI (sI σ 44 0) 63 f_28) 73 i_30) 66 f_35) 44 n_36) 42 j_37) 43 j_38) 68 n_39) 69 j_40) 70 j_41) 57 f_67) 58 f_68) 59 f_69) 60 f_70) 61 f_71) 62 f_72)) H := hP
                                  have hD : va_D A (mwd y ad zw (tI (tI (tI (tI (tJ (tJ (sJ (sJ (sI (sJ (sJ (sI (tI (sI (tI (sI σ 44 0) 63 f_28) 73 i_30) 66 f_35) 44 n_36) 42 j_37) 43 j_38) 68 n_39) 69 j_40) 70 j_41) 57 f_67) 58 f_68) 59 f_69) 60 f_70) 61 f_71) 62 f_72)) := hD
                                  have hw : (opc f_69 f_70 f_71 ∧ (f_72 1).toInt = ((σ.2.2.1 62) 1).toInt + 1 ∧ f_72 0 = (σ.2.2.1 62) 0) ∧ bJ f_67 (-1000000000) 1000000000 ∧ bJ f_68 0 1000000000 ∧ bI f_72 0 1760 := hw
                                  obtain ⟨hw, hg_73, hg_74, hg_75⟩ := hw
                                  obtain ⟨ho9, hl9, hl8⟩ := hw
                                  refine lv_aload_n hx hb dX12_works_518 rfl (lv_at hl 8 rfl) ?_
                                  refine va_get (D := D) (ci := 11) (v := .ref (ad 72)) (C := RX12) (T := TX12) (N := 85) hx hb hts inX12 hown hK hP 0 mwd_o0 rfl 72 (by decide) fl160 (fun _ h9 => h9) rfl dX12_works_519 ?_
                                  refine lv_aload_n hx hb dX12_works_522 rfl (lv_at hl 8 rfl) ?_
                                  refine va_get (D := D) (ci := 11) (v := .int i_30) (C := RX12) (T := TX12) (N := 85) hx hb hts inX12 hown hK hP 0 mwd_o0 rfl 73 (by decide) fl421 (fun _ h9 => h9) rfl dX12_works_523 ?_
                                  refine lv_aload_n hx hb dX12_works_526 rfl (lv_at hl 8 rfl) ?_
                                  refine va_get (D := D) (ci := 11) (v := .ref (ad 62)) (C := RX12) (T := TX12) (N := 85) hx hb hts inX12 hown hK hP 0 mwd_o0 rfl 62 (by decide) fl139 (fun _ h9 => h9) rfl dX12_works_527 ?_
                                  refine lv_iload_n hx hb dX12_works_530 rfl (lv_at hl 9 rfl) ?_
                                  refine va_iald hx hb hK hP 42 2 mwd_a42 rfl (x_in (by decide) (by decide)) dX12_works_531 ?_
                                  refine lv_topi (fun i_76 ei_76 => ?_)
                                  have ei_76 : i_76 = f_72 (Int32.toNatClampNeg 1) := ei_76
                                  have gi_76 : i_76.toInt = (f_72 1).toInt := by rw [ei_76]; rfl
                                  have bi_76 := b_at hg_75 ei_76
                                  refine lv_iconst (v := 1) hx hb dX12_works_532 (by decide) ?_
                                  refine lv_isub hx hb dX12_works_533 ?_
                                  refine lv_topi (fun i_77 ei_77 => ?_)
                                  have vi_77 : i_77.toInt = i_76.toInt - 1 := by have h9 := x_sub ei_77 (by omega) (by omega); omega
                                  refine va_iast hx hb hK hP hD hS 49 2 mwd_a49 rfl (x_in (by omega) (by omega)) dX12_works_534 (fun H locs hP hD hS => ?_)
                                  obtain ⟨f_78, ef_78⟩ : ∃ z9 : Nat → Int32, z9 = (upd (σ.2.2.1 72) (Int32.toNatClampNeg i_30) i_77) := ⟨_, rfl⟩
                                  have hP : va_P D vwCl (mwd y ad zw (tI (tI (tI (tI (tI (tJ (tJ (sJ (sJ (sI (sJ (sJ (sI (tI (sI (tI (sI σ 44 0) 63 f_28) 73 i_30) 66 f_35) 44 n_36) 42 j_37) 43 j_38) 68 n_39) 69 j_40) 70 j_41) 57 f_67) 58 f_68) 59 f_69) 60 f_70) 61 f_71) 62 f_72) 72 f_78)) H := by rw [ef_78]; exact x_trP hP mwd_s49
                                  have hD : va_D A (mwd y ad zw (tI (tI (tI (tI (tI (tJ (tJ (sJ (sJ (sI (sJ (sJ (sI (tI (sI (tI (sI σ 44 0) 63 f_28) 73 i_30) 66 f_35) 44 n_36) 42 j_37) 43 j_38) 68 n_39) 69 j_40) 70 j_41) 57 f_67) 58 f_68) 59 f_69) 60 f_70) 61 f_71) 62 f_72) 72 f_78)) := by rw [ef_78]; exact x_trD hD mwd_s49
                                  have pf_78 : PT (true :: T) f_78 (f_72 1).toInt := by rw [ef_78]; exact PT_pushN (PT_mono (by omega) hPT.2.2) (x_cl (by omega)) (by omega) (by omega)
                                  refine lv_goto (tgt := 626) hx hb dX12_works_535 (by decide) ?_
                                  refine lv_aload_n hx hb dX12_works_626 rfl (lv_at hl 8 rfl) ?_
                                  refine lv_dup hx hb dX12_works_627 rfl ?_
                                  refine va_get (D := D) (ci := 11) (v := .int i_30) (C := RX12) (T := TX12) (N := 85) hx hb hts inX12 hown hK hP 0 mwd_o0 rfl 73 (by decide) fl421 (fun _ h9 => h9) rfl dX12_works_628 ?_
                                  refine lv_iconst (v := 1) hx hb dX12_works_631 (by decide) ?_
                                  refine lv_iadd hx hb dX12_works_632 ?_
                                  refine lv_topi (fun i_79 ei_79 => ?_)
                                  have vi_79 : i_79.toInt = i_30.toInt + 1 := by have h9 := x_add ei_79 (by omega) (by omega); omega
                                  refine va_put (D := D) (ci := 11) (v := .int i_79) (ty := .int) (C := RX12) (T := TX12) (N := 85) hx hb hts inX12 tyX12 tyX12_ok nmX12 hown hK hP hD hS 0 mwd_o0 rfl 73 (by decide) fl421 (fun _ h9 => h9) rfl (by decide +kernel) rfl rfl (Nat.le_of_ble_eq_true rfl) dX12_works_633 (fun H locs hP hD hS => ?_)
                                  have hP : va_P D vwCl (mwd y ad zw (sI (tI (tI (tI (tI (tI (tJ (tJ (sJ (sJ (sI (sJ (sJ (sI (tI (sI (tI (sI σ 44 0) 63 f_28) 73 i_30) 66 f_35) 44 n_36) 42 j_37) 43 j_38) 68 n_39) 69 j_40) 70 j_41) 57 f_67) 58 f_68) 59 f_69) 60 f_70) 61 f_71) 62 f_72) 72 f_78) 73 i_79)) H := x_trP hP mwd_p0_73
                                  have hD : va_D A (mwd y ad zw (sI (tI (tI (tI (tI (tI (tJ (tJ (sJ (sJ (sI (sJ (sJ (sI (tI (sI (tI (sI σ 44 0) 63 f_28) 73 i_30) 66 f_35) 44 n_36) 42 j_37) 43 j_38) 68 n_39) 69 j_40) 70 j_41) 57 f_67) 58 f_68) 59 f_69) 60 f_70) 61 f_71) 62 f_72) 72 f_78) 73 i_79)) := x_trD hD mwd_p0_73
                                  refine lv_iconst (v := 1) hx hb dX12_works_636 (by decide) ?_
                                  have hP : va_P D vwCl (mwd y ad zw (tI (tI (tI (tI (tJ (tJ (sJ (sJ (sI (sJ (sJ (sI (tI (tI (tI (tI (sI σ 73 i_79) 72 f_78) 63 f_28) 67 (σ.2.2.1 67)) 66 f_35) 44 n_36) 42 j_37) 43 j_38) 68 n_39) 69 j_40) 70 j_41) 57 f_67) 58 f_68) 59 f_69) 60 f_70) 61 f_71) 62 f_72)) H := hP
                                  have hD : va_D A (mwd y ad zw (tI (tI (tI (tI (tJ (tJ (sJ (sJ (sI (sJ (sJ (sI (tI (tI (tI (tI (sI σ 73 i_79) 72 f_78) 63 f_28) 67 (σ.2.2.1 67)) 66 f_35) 44 n_36) 42 j_37) 43 j_38) 68 n_39) 69 j_40) 70 j_41) 57 f_67) 58 f_68) 59 f_69) 60 f_70) 61 f_71) 62 f_72)) := hD
                                  exact x_zretW (v := 1) (u := (i_79, f_78, f_28, (σ.2.2.1 67), f_35, n_36, j_37, j_38, n_39, j_40, j_41, f_67, f_68, f_69, f_70, f_71, f_72)) hx hb hr hQ rfl (by (try dsimp only); exact ⟨⟨Or.inr ⟨by omega, pf_78, by omega, rfl⟩, ho9, by omega, by omega, hl8⟩, hg_73, hg_74, hg_75, hvf_28⟩) hP hD hK hS dX12_works_637 hlocks
                      · exact absurd c_42 (by decide)
                · exact absurd c_32 (by decide)
              · exact absurd (by decide) c_31
            · exact absurd c_29 (by decide)
          · exact absurd (by decide) c_25
        · have kc_23 : j_21.toInt < j_22.toInt := by have h9 := x_tri j_21 j_22; (try simp only [Int64.reduceToInt] at h9); rcases h9 with ⟨g1, g2⟩ | ⟨g1, g2⟩ | ⟨g1, g2⟩ <;> first | omega | (exfalso; rw [g1] at c_23; revert c_23; decide)
          refine lv_iconst (v := 1) hx hb dX12_works_148 (by decide) ?_
          refine lv_goto (tgt := 153) hx hb dX12_works_149 (by decide) ?_
          refine lv_istore (lv' := [(13, .int 1), (11, .long j_20), (9, .long j_17), (7, .long j_14), (5, .long j_11), (4, .int i_8), (3, .int i_5), (0, .ref (ad 1)), (1, .int 1), (2, .int 6)]) hx hb dX12_works_153 hl (by decide) rfl (fun ls hl => ?_)
          refine lv_aload_n hx hb dX12_works_155 rfl (lv_at hl 7 rfl) ?_
          refine lv_iconst (v := 0) hx hb dX12_works_156 (by decide) ?_
          refine va_put (D := D) (ci := 11) (v := .int 0) (ty := .boolean) (C := RX12) (T := TX12) (N := 85) hx hb hts inX12 tyX12 tyX12_ok nmX12 hown hK hP hD hS 0 mwd_o0 rfl 44 (by decide) fl384 (fun _ h9 => h9) rfl (by decide +kernel) rfl rfl (Nat.le_of_ble_eq_true rfl) dX12_works_157 (fun H locs hP hD hS => ?_)
          have hP : va_P D vwCl (mwd y ad zw (sI σ 44 0)) H := x_trP hP mwd_p0_44
          have hD : va_D A (mwd y ad zw (sI σ 44 0)) := x_trD hD mwd_p0_44
          refine lv_iload_n hx hb dX12_works_160 rfl (lv_at hl 9 rfl) ?_
          refine lv_tableOut (tgt := 252) hx hb dX12_works_161 (by decide) (by decide) ?_
          refine lv_aload_n hx hb dX12_works_252 rfl (lv_at hl 7 rfl) ?_
          refine va_get (D := D) (ci := 11) (v := .int 0) (C := RX12) (T := TX12) (N := 85) hx hb hts inX12 hown hK hP 0 mwd_o0 rfl 44 (by decide) fl384 (fun _ h9 => h9) rfl dX12_works_253 ?_
          refine lv_if_eq (tgt := 268) hx hb dX12_works_256 (by decide) (fun c_81 => ?_) (fun c_81 => ?_)
          · refine lv_aload_n hx hb dX12_works_268 rfl (lv_at hl 7 rfl) ?_
            refine va_get (D := D) (ci := 11) (v := .ref (ad 63)) (C := RX12) (T := TX12) (N := 85) hx hb hts inX12 hown hK hP 0 mwd_o0 rfl 63 (by decide) fl142 (fun _ h9 => h9) rfl dX12_works_269 ?_
            refine lv_iload_n hx hb dX12_works_272 rfl (lv_at hl 8 rfl) ?_
            refine lv_dup2_11 hx hb dX12_works_273 rfl rfl ?_
            refine va_iald hx hb hK hP 43 2 mwd_a43 rfl (x_in (by decide) (by decide)) dX12_works_274 ?_
            refine lv_topi (fun i_82 ei_82 => ?_)
            have ei_82 : i_82 = (σ.2.2.1 63) (Int32.toNatClampNeg 1) := ei_82
            have gi_82 : i_82.toInt = (σ.2.2.1 63 1).toInt := by rw [ei_82]; rfl
            have bi_82 := b_at hB63 ei_82
            refine lv_iconst (v := 1) hx hb dX12_works_275 (by decide) ?_
            refine lv_iadd hx hb dX12_works_276 ?_
            refine lv_topi (fun i_83 ei_83 => ?_)
            have vi_83 : i_83.toInt = i_82.toInt + 1 := by have h9 := x_add ei_83 (by omega) (by omega); omega
            refine va_iast hx hb hK hP hD hS 43 2 mwd_a43 rfl (x_in (by decide) (by decide)) dX12_works_277 (fun H locs hP hD hS => ?_)
            obtain ⟨f_84, ef_84⟩ : ∃ z9 : Nat → Int32, z9 = (upd (σ.2.2.1 63) (Int32.toNatClampNeg 1) i_83) := ⟨_, rfl⟩
            have hP : va_P D vwCl (mwd y ad zw (tI (sI σ 44 0) 63 f_84)) H := by rw [ef_84]; exact x_trP hP mwd_s43
            have hD : va_D A (mwd y ad zw (tI (sI σ 44 0) 63 f_84)) := by rw [ef_84]; exact x_trD hD mwd_s43
            have hvf_84 : bI f_84 0 1000 := by rw [ef_84]; exact b_upd hB63 (by omega) (by omega)
            have sf_84 : (f_84 1).toInt = i_83.toInt := by rw [ef_84]; exact congrArg Int32.toInt (x_upd_same _ 1 _)
            refine lv_aload_n hx hb dX12_works_278 rfl (lv_at hl 7 rfl) ?_
            refine lv_dup hx hb dX12_works_279 rfl ?_
            refine va_get (D := D) (ci := 11) (v := .int (σ.1 73)) (C := RX12) (T := TX12) (N := 85) hx hb hts inX12 hown hK hP 0 mwd_o0 rfl 73 (by decide) fl421 (fun _ h9 => h9) rfl dX12_works_280 ?_
            refine lv_iload_n hx hb dX12_works_283 rfl (lv_at hl 9 rfl) ?_
            refine lv_bipush (v := 7) hx hb dX12_works_284 (by decide) ?_
            refine lv_icmp_ne (tgt := 293) hx hb dX12_works_286 (by decide) (fun c_85 => ?_) (fun c_85 => ?_)
            · refine lv_iconst (v := 2) hx hb dX12_works_293 (by decide) ?_
              refine lv_isub hx hb dX12_works_294 ?_
              refine lv_topi (fun i_86 ei_86 => ?_)
              have vi_86 : i_86.toInt = (σ.1 73).toInt - 2 := by have h9 := x_sub ei_86 (by omega) (by omega); omega
              refine va_put (D := D) (ci := 11) (v := .int i_86) (ty := .int) (C := RX12) (T := TX12) (N := 85) hx hb hts inX12 tyX12 tyX12_ok nmX12 hown hK hP hD hS 0 mwd_o0 rfl 73 (by decide) fl421 (fun _ h9 => h9) rfl (by decide +kernel) rfl rfl (Nat.le_of_ble_eq_true rfl) dX12_works_295 (fun H locs hP hD hS => ?_)
              have hP : va_P D vwCl (mwd y ad zw (sI (tI (sI σ 44 0) 63 f_84) 73 i_86)) H := x_trP hP mwd_p0_73
              have hD : va_D A (mwd y ad zw (sI (tI (sI σ 44 0) 63 f_84) 73 i_86)) := x_trD hD mwd_p0_73
              refine lv_iload_n hx hb dX12_works_298 rfl (lv_at hl 9 rfl) ?_
              refine lv_iconst (v := 4) hx hb dX12_works_299 (by decide) ?_
              refine lv_icmp_gt (tgt := 340) hx hb dX12_works_300 (by decide) (fun c_87 => ?_) (fun c_87 => ?_)
              · refine lv_iload_n hx hb dX12_works_340 rfl (lv_at hl 9 rfl) ?_
                refine lv_bipush (v := 7) hx hb dX12_works_341 (by decide) ?_
                refine lv_icmp_ne (tgt := 394) hx hb dX12_works_343 (by decide) (fun c_88 => ?_) (fun c_88 => ?_)
                · refine lv_iload_n hx hb dX12_works_394 rfl (lv_at hl 9 rfl) ?_
                  refine lv_iconst (v := 5) hx hb dX12_works_395 (by decide) ?_
                  refine lv_icmp_eq (tgt := 405) hx hb dX12_works_396 (by decide) (fun c_89 => ?_) (fun c_89 => ?_)
                  · exact absurd c_89 (by decide)
                  · refine lv_iload_n hx hb dX12_works_399 rfl (lv_at hl 9 rfl) ?_
                    refine lv_bipush (v := 6) hx hb dX12_works_400 (by decide) ?_
                    refine lv_icmp_ne (tgt := 538) hx hb dX12_works_402 (by decide) (fun c_90 => ?_) (fun c_90 => ?_)
                    · exact absurd (by decide) c_90
                    · refine lv_aload_n hx hb dX12_works_405 rfl (lv_at hl 7 rfl) ?_
                      refine lv_iload_n hx hb dX12_works_406 rfl (lv_at hl 8 rfl) ?_
                      refine lv_lload hx hb dX12_works_407 (lv_at hl 4 rfl) ?_
                      refine lv_lload hx hb dX12_works_409 (lv_at hl 3 rfl) ?_
                      refine lv_lload hx hb dX12_works_411 (lv_at hl 2 rfl) ?_
                      refine lv_lload hx hb dX12_works_413 (lv_at hl 1 rfl) ?_
                      refine x_callvW (va_runV (As := [.int 1, .long j_11, .long j_14, .long j_17, .long j_20]) (rest := []) ⟨hx, hb, hml, hown, hts⟩ (q_nears1 l D y H.size ad zw (sI (tI (sI σ 44 0) 63 f_84) 73 i_86) j_11 j_14 j_17 j_20 (by first | omega | decide) (by first | omega | decide) (by first | omega | decide) (by first | omega | decide) (by first | omega | decide) (by first | omega | decide) (by first | omega | decide) (by first | omega | decide)) (cwV 5 hts g_q_works1_6_0 rfl rfl rfl (by decide +kernel) ⟨Nat.le_of_ble_eq_true rfl, Nat.le_of_ble_eq_true rfl⟩) (x_preV (q := (RX12, TX12, 85)) hK hP hD (ci := 11) (q0 := 0) rfl mwd_o0) rfl rfl hl.1 rfl (lv_room (Nat.le_of_ble_eq_true rfl)) dX12_works_415 ⟨Nat.le_of_ble_eq_true rfl, Nat.le_of_ble_eq_true rfl⟩) hP hD hS hA (fun u H locs hw hP hD hS => ?_)
                      obtain ⟨f_91, n_92, j_93, j_94, n_95, j_96, j_97⟩ := u
                      try dsimp only at hw
                      have hP : va_P D vwCl (mwd y ad zw (sJ (sJ (sI (sJ (sJ (sI (tI (sI (tI (sI σ 44 0) 63 f_84) 73 i_86) 66 f_91) 44 n_92) 42 j_93) 43 j_94) 68 n_95) 69 j_96) 70 j_97)) H := hP
                      have hD : va_D A (mwd y ad zw (sJ (sJ (sI (sJ (sJ (sI (tI (sI (tI (sI σ 44 0) 63 f_84) 73 i_86) 66 f_91) 44 n_92) 42 j_93) 43 j_94) 68 n_95) 69 j_96) 70 j_97)) := hD
                      have hw : True := hw
                      refine lv_iload_n hx hb dX12_works_418 rfl (lv_at hl 9 rfl) ?_
                      refine lv_iconst (v := 5) hx hb dX12_works_419 (by decide) ?_
                      refine lv_icmp_ne (tgt := 445) hx hb dX12_works_420 (by decide) (fun c_98 => ?_) (fun c_98 => ?_)
                      · refine lv_lload hx hb dX12_works_445 (lv_at hl 2 rfl) ?_
                        refine lv_lload hx hb dX12_works_447 (lv_at hl 3 rfl) ?_
                        refine lv_lmul hx hb dX12_works_449 ?_
                        refine lv_topl (fun j_99 ej_99 => ?_)
                        have vj_99 := x_mulB ej_99 (by omega) (by omega) (by omega) (by omega)
                        refine lv_lload hx hb dX12_works_450 (lv_at hl 4 rfl) ?_
                        refine lv_lload hx hb dX12_works_452 (lv_at hl 1 rfl) ?_
                        refine lv_lmul hx hb dX12_works_454 ?_
                        refine lv_topl (fun j_100 ej_100 => ?_)
                        have vj_100 := x_mulB ej_100 (by omega) (by omega) (by omega) (by omega)
                        refine W.lcmp hx hb dX12_works_455 ?_
                        refine lv_if_le (tgt := 463) hx hb dX12_works_456 (by decide) (fun c_101 => ?_) (fun c_101 => ?_)
                        · have kc_101 : j_99.toInt ≤ j_100.toInt := by have h9 := x_tri j_99 j_100; (try simp only [Int64.reduceToInt] at h9); rcases h9 with ⟨g1, g2⟩ | ⟨g1, g2⟩ | ⟨g1, g2⟩ <;> first | omega | (exfalso; rw [g1] at c_101; revert c_101; decide)
                          refine lv_iconst (v := 0) hx hb dX12_works_463 (by decide) ?_
                          refine lv_istore (lv' := [(14, .int 0), (13, .int 1), (11, .long j_20), (9, .long j_17), (7, .long j_14), (5, .long j_11), (4, .int i_8), (3, .int i_5), (0, .ref (ad 1)), (1, .int 1), (2, .int 6)]) hx hb dX12_works_464 hl (by decide) rfl (fun ls hl => ?_)
                          refine lv_aload_n hx hb dX12_works_466 rfl (lv_at hl 8 rfl) ?_
                          refine lv_iload_n hx hb dX12_works_467 rfl (lv_at hl 9 rfl) ?_
                          refine lv_iload hx hb dX12_works_468 (lv_at hl 0 rfl) ?_
                          refine lv_if_eq (tgt := 478) hx hb dX12_works_470 (by decide) (fun c_102 => ?_) (fun c_102 => ?_)
                          · refine lv_lload hx hb dX12_works_478 (lv_at hl 5 rfl) ?_
                            refine lv_iload hx hb dX12_works_480 (lv_at hl 0 rfl) ?_
                            refine lv_if_eq (tgt := 490) hx hb dX12_works_482 (by decide) (fun c_103 => ?_) (fun c_103 => ?_)
                            · refine lv_lload hx hb dX12_works_490 (lv_at hl 4 rfl) ?_
                              refine lv_iload_n hx hb dX12_works_492 rfl (lv_at hl 10 rfl) ?_
                              refine lv_iload hx hb dX12_works_493 (lv_at hl 0 rfl) ?_
                              refine lv_if_eq (tgt := 502) hx hb dX12_works_495 (by decide) (fun c_104 => ?_) (fun c_104 => ?_)
                              · refine lv_iload hx hb dX12_works_502 (lv_at hl 6 rfl) ?_
                                refine lv_iload hx hb dX12_works_504 (lv_at hl 0 rfl) ?_
                                refine lv_if_eq (tgt := 513) hx hb dX12_works_506 (by decide) (fun c_105 => ?_) (fun c_105 => ?_)
                                · refine lv_iload hx hb dX12_works_513 (lv_at hl 6 rfl) ?_
                                  refine x_callvW (va_runV (As := [.int 1, .long j_11, .long j_14, .int 6, .int i_8, .int i_8]) (rest := []) ⟨hx, hb, hml, hown, hts⟩ (q_lays1 l D y H.size ad zw (sJ (sJ (sI (sJ (sJ (sI (tI (sI (tI (sI σ 44 0) 63 f_84) 73 i_86) 66 f_91) 44 n_92) 42 j_93) 43 j_94) 68 n_95) 69 j_96) 70 j_97) j_11 j_14 6 i_8 i_8 (by first | omega | decide) (by first | omega | decide) (by first | omega | decide) (by first | omega | decide) hop (fun _ => by omega) (show 0 ≤ ((σ.2.2.1 62) 1).toInt from by first | omega | decide) (show ((σ.2.2.1 62) 1).toInt < 1760 from by first | omega | decide) hB57 hB58 hB62) (cwV 6 hts g_q_works1_6_1 rfl rfl rfl (by decide +kernel) ⟨Nat.le_of_ble_eq_true rfl, Nat.le_of_ble_eq_true rfl⟩) (x_preV (q := (RX12, TX12, 85)) hK hP hD (ci := 11) (q0 := 0) rfl mwd_o0) rfl rfl hl.1 rfl (lv_room (Nat.le_of_ble_eq_true rfl)) dX12_works_515 ⟨Nat.le_of_ble_eq_true rfl, Nat.le_of_ble_eq_true rfl⟩) hP hD hS hA (fun u H locs hw hP hD hS => ?_)
                                  obtain ⟨f_106, f_107, f_108, f_109, f_110, f_111⟩ := u
                                  try dsimp only at hw
                                  have hP : va_P D vwCl (mwd y ad zw (tI (tI (tI (tI (tJ (tJ (sJ (sJ (sI (sJ (sJ (sI (tI (sI (tI (sI σ 44 0) 63 f_84) 73 i_86) 66 f_91) 44 n_92) 42 j_93) 43 j_94) 68 n_95) 69 j_96) 70 j_97) 57 f_106) 58 f_107) 59 f_108) 60 f_109) 61 f_110) 62 f_111)) H := hP
                                  have hD : va_D A (mwd y ad zw (tI (tI (tI (tI (tJ (tJ (sJ (sJ (sI (sJ (sJ (sI (tI (sI (tI (sI σ 44 0) 63 f_84) 73 i_86) 66 f_91) 44 n_92) 42 j_93) 43 j_94) 68 n_95) 69 j_96) 70 j_97) 57 f_106) 58 f_107) 59 f_108) 60 f_109) 61 f_110) 62 f_111)) := hD
                                  have hw : (opc f_108 f_109 f_110 ∧ (f_111 1).toInt = ((σ.2.2.1 62) 1).toInt + 1 ∧ f_111 0 = (σ.2.2.1 62) 0) ∧ bJ f_106 (-1000000000) 1000000000 ∧ bJ f_107 0 1000000000 ∧ bI f_111 0 1760 := hw
                                  obtain ⟨hw, hg_112, hg_113, hg_114⟩ := hw
                                  obtain ⟨ho9, hl9, hl8⟩ := hw
                                  refine lv_aload_n hx hb dX12_works_518 rfl (lv_at hl 8 rfl) ?_
                                  refine va_get (D := D) (ci := 11) (v := .ref (ad 72)) (C := RX12) (T := TX12) (N := 85) hx hb hts inX12 hown hK hP 0 mwd_o0 rfl 72 (by decide) fl160 (fun _ h9 => h9) rfl dX12_works_519 ?_
                                  refine lv_aload_n hx hb dX12_works_522 rfl (lv_at hl 8 rfl) ?_
                                  refine va_get (D := D) (ci := 11) (v := .int i_86) (C := RX12) (T := TX12) (N := 85) hx hb hts inX12 hown hK hP 0 mwd_o0 rfl 73 (by decide) fl421 (fun _ h9 => h9) rfl dX12_works_523 ?_
                                  refine lv_aload_n hx hb dX12_works_526 rfl (lv_at hl 8 rfl) ?_
                                  refine va_get (D := D) (ci := 11) (v := .ref (ad 62)) (C := RX12) (T := TX12) (N := 85) hx hb hts inX12 hown hK hP 0 mwd_o0 rfl 62 (by decide) fl139 (fun _ h9 => h9) rfl dX12_works_527 ?_
                                  refine lv_iload_n hx hb dX12_works_530 rfl (lv_at hl 9 rfl) ?_
                                  refine va_iald hx hb hK hP 42 2 mwd_a42 rfl (x_in (by decide) (by decide)) dX12_works_531 ?_
                                  refine lv_topi (fun i_115 ei_115 => ?_)
                                  have ei_115 : i_115 = f_111 (Int32.toNatClampNeg 1) := ei_115
                                  have gi_115 : i_115.toInt = (f_111 1).toInt := by rw [ei_115]; rfl
                                  have bi_115 := b_at hg_114 ei_115
                                  refine lv_iconst (v := 1) hx hb dX12_works_532 (by decide) ?_
                                  refine lv_isub hx hb dX12_works_533 ?_
                                  refine lv_topi (fun i_116 ei_116 => ?_)
                                  have vi_116 : i_116.toInt = i_115.toInt - 1 := by have h9 := x_sub ei_116 (by omega) (by omega); omega
                                  refine va_iast hx hb hK hP hD hS 49 2 mwd_a49 rfl (x_in (by omega) (by omega)) dX12_works_534 (fun H locs hP hD hS => ?_)
                                  obtain ⟨f_117, ef_117⟩ : ∃ z9 : Nat → Int32, z9 = (upd (σ.2.2.1 72) (Int32.toNatClampNeg i_86) i_116) := ⟨_, rfl⟩
                                  have hP : va_P D vwCl (mwd y ad zw (tI (tI (tI (tI (tI (tJ (tJ (sJ (sJ (sI (sJ (sJ (sI (tI (sI (tI (sI σ 44 0) 63 f_84) 73 i_86) 66 f_91) 44 n_92) 42 j_93) 43 j_94) 68 n_95) 69 j_96) 70 j_97) 57 f_106) 58 f_107) 59 f_108) 60 f_109) 61 f_110) 62 f_111) 72 f_117)) H := by rw [ef_117]; exact x_trP hP mwd_s49
                                  have hD : va_D A (mwd y ad zw (tI (tI (tI (tI (tI (tJ (tJ (sJ (sJ (sI (sJ (sJ (sI (tI (sI (tI (sI σ 44 0) 63 f_84) 73 i_86) 66 f_91) 44 n_92) 42 j_93) 43 j_94) 68 n_95) 69 j_96) 70 j_97) 57 f_106) 58 f_107) 59 f_108) 60 f_109) 61 f_110) 62 f_111) 72 f_117)) := by rw [ef_117]; exact x_trD hD mwd_s49
                                  have pf_117 : PT (true :: T) f_117 (f_111 1).toInt := by rw [ef_117]; exact PT_pushN (PT_mono (by omega) hPT.2.2) (x_cl (by omega)) (by omega) (by omega)
                                  refine lv_goto (tgt := 626) hx hb dX12_works_535 (by decide) ?_
                                  refine lv_aload_n hx hb dX12_works_626 rfl (lv_at hl 8 rfl) ?_
                                  refine lv_dup hx hb dX12_works_627 rfl ?_
                                  refine va_get (D := D) (ci := 11) (v := .int i_86) (C := RX12) (T := TX12) (N := 85) hx hb hts inX12 hown hK hP 0 mwd_o0 rfl 73 (by decide) fl421 (fun _ h9 => h9) rfl dX12_works_628 ?_
                                  refine lv_iconst (v := 1) hx hb dX12_works_631 (by decide) ?_
                                  refine lv_iadd hx hb dX12_works_632 ?_
                                  refine lv_topi (fun i_118 ei_118 => ?_)
                                  have vi_118 : i_118.toInt = i_86.toInt + 1 := by have h9 := x_add ei_118 (by omega) (by omega); omega
                                  refine va_put (D := D) (ci := 11) (v := .int i_118) (ty := .int) (C := RX12) (T := TX12) (N := 85) hx hb hts inX12 tyX12 tyX12_ok nmX12 hown hK hP hD hS 0 mwd_o0 rfl 73 (by decide) fl421 (fun _ h9 => h9) rfl (by decide +kernel) rfl rfl (Nat.le_of_ble_eq_true rfl) dX12_works_633 (fun H locs hP hD hS => ?_)
                                  have hP : va_P D vwCl (mwd y ad zw (sI (tI (tI (tI (tI (tI (tJ (tJ (sJ (sJ (sI (sJ (sJ (sI (tI (sI (tI (sI σ 44 0) 63 f_84) 73 i_86) 66 f_91) 44 n_92) 42 j_93) 43 j_94) 68 n_95) 69 j_96) 70 j_97) 57 f_106) 58 f_107) 59 f_108) 60 f_109) 61 f_110) 62 f_111) 72 f_117) 73 i_118)) H := x_trP hP mwd_p0_73
                                  have hD : va_D A (mwd y ad zw (sI (tI (tI (tI (tI (tI (tJ (tJ (sJ (sJ (sI (sJ (sJ (sI (tI (sI (tI (sI σ 44 0) 63 f_84) 73 i_86) 66 f_91) 44 n_92) 42 j_93) 43 j_94) 68 n_95) 69 j_96) 70 j_97) 57 f_106) 58 f_107) 59 f_108) 60 f_109) 61 f_110) 62 f_111) 72 f_117) 73 i_118)) := x_trD hD mwd_p0_73
                                  refine lv_iconst (v := 1) hx hb dX12_works_636 (by decide) ?_
                                  have hP : va_P D vwCl (mwd y ad zw (tI (tI (tI (tI (tJ (tJ (sJ (sJ (sI (sJ (sJ (sI (tI (tI (tI (tI (sI σ 73 i_118) 72 f_117) 63 f_84) 67 (σ.2.2.1 67)) 66 f_91) 44 n_92) 42 j_93) 43 j_94) 68 n_95) 69 j_96) 70 j_97) 57 f_106) 58 f_107) 59 f_108) 60 f_109) 61 f_110) 62 f_111)) H := hP
                                  have hD : va_D A (mwd y ad zw (tI (tI (tI (tI (tJ (tJ (sJ (sJ (sI (sJ (sJ (sI (tI (tI (tI (tI (sI σ 73 i_118) 72 f_117) 63 f_84) 67 (σ.2.2.1 67)) 66 f_91) 44 n_92) 42 j_93) 43 j_94) 68 n_95) 69 j_96) 70 j_97) 57 f_106) 58 f_107) 59 f_108) 60 f_109) 61 f_110) 62 f_111)) := hD
                                  exact x_zretW (v := 1) (u := (i_118, f_117, f_84, (σ.2.2.1 67), f_91, n_92, j_93, j_94, n_95, j_96, j_97, f_106, f_107, f_108, f_109, f_110, f_111)) hx hb hr hQ rfl (by (try dsimp only); exact ⟨⟨Or.inr ⟨by omega, pf_117, by omega, rfl⟩, ho9, by omega, by omega, hl8⟩, hg_112, hg_113, hg_114, hvf_84⟩) hP hD hK hS dX12_works_637 hlocks
                                · exact absurd (by decide) c_105
                              · exact absurd (by decide) c_104
                            · exact absurd (by decide) c_103
                          · exact absurd (by decide) c_102
                        · have kc_101 : j_99.toInt > j_100.toInt := by have h9 := x_tri j_99 j_100; (try simp only [Int64.reduceToInt] at h9); rcases h9 with ⟨g1, g2⟩ | ⟨g1, g2⟩ | ⟨g1, g2⟩ <;> first | omega | (exfalso; rw [g1] at c_101; revert c_101; decide)
                          refine lv_iconst (v := 1) hx hb dX12_works_459 (by decide) ?_
                          refine lv_goto (tgt := 464) hx hb dX12_works_460 (by decide) ?_
                          refine lv_istore (lv' := [(14, .int 1), (13, .int 1), (11, .long j_20), (9, .long j_17), (7, .long j_14), (5, .long j_11), (4, .int i_8), (3, .int i_5), (0, .ref (ad 1)), (1, .int 1), (2, .int 6)]) hx hb dX12_works_464 hl (by decide) rfl (fun ls hl => ?_)
                          refine lv_aload_n hx hb dX12_works_466 rfl (lv_at hl 8 rfl) ?_
                          refine lv_iload_n hx hb dX12_works_467 rfl (lv_at hl 9 rfl) ?_
                          refine lv_iload hx hb dX12_works_468 (lv_at hl 0 rfl) ?_
                          refine lv_if_eq (tgt := 478) hx hb dX12_works_470 (by decide) (fun c_119 => ?_) (fun c_119 => ?_)
                          · exact absurd c_119 (by decide)
                          · refine lv_lload hx hb dX12_works_473 (lv_at hl 3 rfl) ?_
                            refine lv_goto (tgt := 480) hx hb dX12_works_475 (by decide) ?_
                            refine lv_iload hx hb dX12_works_480 (lv_at hl 0 rfl) ?_
                            refine lv_if_eq (tgt := 490) hx hb dX12_works_482 (by decide) (fun c_120 => ?_) (fun c_120 => ?_)
                            · exact absurd c_120 (by decide)
                            · refine lv_lload hx hb dX12_works_485 (lv_at hl 2 rfl) ?_
                              refine lv_goto (tgt := 492) hx hb dX12_works_487 (by decide) ?_
                              refine lv_iload_n hx hb dX12_works_492 rfl (lv_at hl 10 rfl) ?_
                              refine lv_iload hx hb dX12_works_493 (lv_at hl 0 rfl) ?_
                              refine lv_if_eq (tgt := 502) hx hb dX12_works_495 (by decide) (fun c_121 => ?_) (fun c_121 => ?_)
                              · exact absurd c_121 (by decide)
                              · refine lv_iload_n hx hb dX12_works_498 rfl (lv_at hl 7 rfl) ?_
                                refine lv_goto (tgt := 504) hx hb dX12_works_499 (by decide) ?_
                                refine lv_iload hx hb dX12_works_504 (lv_at hl 0 rfl) ?_
                                refine lv_if_eq (tgt := 513) hx hb dX12_works_506 (by decide) (fun c_122 => ?_) (fun c_122 => ?_)
                                · exact absurd c_122 (by decide)
                                · refine lv_iload_n hx hb dX12_works_509 rfl (lv_at hl 7 rfl) ?_
                                  refine lv_goto (tgt := 515) hx hb dX12_works_510 (by decide) ?_
                                  refine x_callvW (va_runV (As := [.int 1, .long j_17, .long j_20, .int 6, .int i_5, .int i_5]) (rest := []) ⟨hx, hb, hml, hown, hts⟩ (q_lays1 l D y H.size ad zw (sJ (sJ (sI (sJ (sJ (sI (tI (sI (tI (sI σ 44 0) 63 f_84) 73 i_86) 66 f_91) 44 n_92) 42 j_93) 43 j_94) 68 n_95) 69 j_96) 70 j_97) j_17 j_20 6 i_5 i_5 (by first | omega | decide) (by first | omega | decide) (by first | omega | decide) (by first | omega | decide) hop (fun _ => by omega) (show 0 ≤ ((σ.2.2.1 62) 1).toInt from by first | omega | decide) (show ((σ.2.2.1 62) 1).toInt < 1760 from by first | omega | decide) hB57 hB58 hB62) (cwV 6 hts g_q_works1_6_1 rfl rfl rfl (by decide +kernel) ⟨Nat.le_of_ble_eq_true rfl, Nat.le_of_ble_eq_true rfl⟩) (x_preV (q := (RX12, TX12, 85)) hK hP hD (ci := 11) (q0 := 0) rfl mwd_o0) rfl rfl hl.1 rfl (lv_room (Nat.le_of_ble_eq_true rfl)) dX12_works_515 ⟨Nat.le_of_ble_eq_true rfl, Nat.le_of_ble_eq_true rfl⟩) hP hD hS hA (fun u H locs hw hP hD hS => ?_)
                                  obtain ⟨f_123, f_124, f_125, f_126, f_127, f_128⟩ := u
                                  try dsimp only at hw
                                  have hP : va_P D vwCl (mwd y ad zw (tI (tI (tI (tI (tJ (tJ (sJ (sJ (sI (sJ (sJ (sI (tI (sI (tI (sI σ 44 0) 63 f_84) 73 i_86) 66 f_91) 44 n_92) 42 j_93) 43 j_94) 68 n_95) 69 j_96) 70 j_97) 57 f_123) 58 f_124) 59 f_125) 60 f_126) 61 f_127) 62 f_128)) H := hP
                                  have hD : va_D A (mwd y ad zw (tI (tI (tI (tI (tJ (tJ (sJ (sJ (sI (sJ (sJ (sI (tI (sI (tI (sI σ 44 0) 63 f_84) 73 i_86) 66 f_91) 44 n_92) 42 j_93) 43 j_94) 68 n_95) 69 j_96) 70 j_97) 57 f_123) 58 f_124) 59 f_125) 60 f_126) 61 f_127) 62 f_128)) := hD
                                  have hw : (opc f_125 f_126 f_127 ∧ (f_128 1).toInt = ((σ.2.2.1 62) 1).toInt + 1 ∧ f_128 0 = (σ.2.2.1 62) 0) ∧ bJ f_123 (-1000000000) 1000000000 ∧ bJ f_124 0 1000000000 ∧ bI f_128 0 1760 := hw
                                  obtain ⟨hw, hg_129, hg_130, hg_131⟩ := hw
                                  obtain ⟨ho9, hl9, hl8⟩ := hw
                                  refine lv_aload_n hx hb dX12_works_518 rfl (lv_at hl 8 rfl) ?_
                                  refine va_get (D := D) (ci := 11) (v := .ref (ad 72)) (C := RX12) (T := TX12) (N := 85) hx hb hts inX12 hown hK hP 0 mwd_o0 rfl 72 (by decide) fl160 (fun _ h9 => h9) rfl dX12_works_519 ?_
                                  refine lv_aload_n hx hb dX12_works_522 rfl (lv_at hl 8 rfl) ?_
                                  refine va_get (D := D) (ci := 11) (v := .int i_86) (C := RX12) (T := TX12) (N := 85) hx hb hts inX12 hown hK hP 0 mwd_o0 rfl 73 (by decide) fl421 (fun _ h9 => h9) rfl dX12_works_523 ?_
                                  refine lv_aload_n hx hb dX12_works_526 rfl (lv_at hl 8 rfl) ?_
                                  refine va_get (D := D) (ci := 11) (v := .ref (ad 62)) (C := RX12) (T := TX12) (N := 85) hx hb hts inX12 hown hK hP 0 mwd_o0 rfl 62 (by decide) fl139 (fun _ h9 => h9) rfl dX12_works_527 ?_
                                  refine lv_iload_n hx hb dX12_works_530 rfl (lv_at hl 9 rfl) ?_
                                  refine va_iald hx hb hK hP 42 2 mwd_a42 rfl (x_in (by decide) (by decide)) dX12_works_531 ?_
                                  refine lv_topi (fun i_132 ei_132 => ?_)
                                  have ei_132 : i_132 = f_128 (Int32.toNatClampNeg 1) := ei_132
                                  have gi_132 : i_132.toInt = (f_128 1).toInt := by rw [ei_132]; rfl
                                  have bi_132 := b_at hg_131 ei_132
                                  refine lv_iconst (v := 1) hx hb dX12_works_532 (by decide) ?_
                                  refine lv_isub hx hb dX12_works_533 ?_
                                  refine lv_topi (fun i_133 ei_133 => ?_)
                                  have vi_133 : i_133.toInt = i_132.toInt - 1 := by have h9 := x_sub ei_133 (by omega) (by omega); omega
                                  refine va_iast hx hb hK hP hD hS 49 2 mwd_a49 rfl (x_in (by omega) (by omega)) dX12_works_534 (fun H locs hP hD hS => ?_)
                                  obtain ⟨f_134, ef_134⟩ : ∃ z9 : Nat → Int32, z9 = (upd (σ.2.2.1 72) (Int32.toNatClampNeg i_86) i_133) := ⟨_, rfl⟩
                                  have hP : va_P D vwCl (mwd y ad zw (tI (tI (tI (tI (tI (tJ (tJ (sJ (sJ (sI (sJ (sJ (sI (tI (sI (tI (sI σ 44 0) 63 f_84) 73 i_86) 66 f_91) 44 n_92) 42 j_93) 43 j_94) 68 n_95) 69 j_96) 70 j_97) 57 f_123) 58 f_124) 59 f_125) 60 f_126) 61 f_127) 62 f_128) 72 f_134)) H := by rw [ef_134]; exact x_trP hP mwd_s49
                                  have hD : va_D A (mwd y ad zw (tI (tI (tI (tI (tI (tJ (tJ (sJ (sJ (sI (sJ (sJ (sI (tI (sI (tI (sI σ 44 0) 63 f_84) 73 i_86) 66 f_91) 44 n_92) 42 j_93) 43 j_94) 68 n_95) 69 j_96) 70 j_97) 57 f_123) 58 f_124) 59 f_125) 60 f_126) 61 f_127) 62 f_128) 72 f_134)) := by rw [ef_134]; exact x_trD hD mwd_s49
                                  have pf_134 : PT (true :: T) f_134 (f_128 1).toInt := by rw [ef_134]; exact PT_pushN (PT_mono (by omega) hPT.2.2) (x_cl (by omega)) (by omega) (by omega)
                                  refine lv_goto (tgt := 626) hx hb dX12_works_535 (by decide) ?_
                                  refine lv_aload_n hx hb dX12_works_626 rfl (lv_at hl 8 rfl) ?_
                                  refine lv_dup hx hb dX12_works_627 rfl ?_
                                  refine va_get (D := D) (ci := 11) (v := .int i_86) (C := RX12) (T := TX12) (N := 85) hx hb hts inX12 hown hK hP 0 mwd_o0 rfl 73 (by decide) fl421 (fun _ h9 => h9) rfl dX12_works_628 ?_
                                  refine lv_iconst (v := 1) hx hb dX12_works_631 (by decide) ?_
                                  refine lv_iadd hx hb dX12_works_632 ?_
                                  refine lv_topi (fun i_135 ei_135 => ?_)
                                  have vi_135 : i_135.toInt = i_86.toInt + 1 := by have h9 := x_add ei_135 (by omega) (by omega); omega
                                  refine va_put (D := D) (ci := 11) (v := .int i_135) (ty := .int) (C := RX12) (T := TX12) (N := 85) hx hb hts inX12 tyX12 tyX12_ok nmX12 hown hK hP hD hS 0 mwd_o0 rfl 73 (by decide) fl421 (fun _ h9 => h9) rfl (by decide +kernel) rfl rfl (Nat.le_of_ble_eq_true rfl) dX12_works_633 (fun H locs hP hD hS => ?_)
                                  have hP : va_P D vwCl (mwd y ad zw (sI (tI (tI (tI (tI (tI (tJ (tJ (sJ (sJ (sI (sJ (sJ (sI (tI (sI (tI (sI σ 44 0) 63 f_84) 73 i_86) 66 f_91) 44 n_92) 42 j_93) 43 j_94) 68 n_95) 69 j_96) 70 j_97) 57 f_123) 58 f_124) 59 f_125) 60 f_126) 61 f_127) 62 f_128) 72 f_134) 73 i_135)) H := x_trP hP mwd_p0_73
                                  have hD : va_D A (mwd y ad zw (sI (tI (tI (tI (tI (tI (tJ (tJ (sJ (sJ (sI (sJ (sJ (sI (tI (sI (tI (sI σ 44 0) 63 f_84) 73 i_86) 66 f_91) 44 n_92) 42 j_93) 43 j_94) 68 n_95) 69 j_96) 70 j_97) 57 f_123) 58 f_124) 59 f_125) 60 f_126) 61 f_127) 62 f_128) 72 f_134) 73 i_135)) := x_trD hD mwd_p0_73
                                  refine lv_iconst (v := 1) hx hb dX12_works_636 (by decide) ?_
                                  have hP : va_P D vwCl (mwd y ad zw (tI (tI (tI (tI (tJ (tJ (sJ (sJ (sI (sJ (sJ (sI (tI (tI (tI (tI (sI σ 73 i_135) 72 f_134) 63 f_84) 67 (σ.2.2.1 67)) 66 f_91) 44 n_92) 42 j_93) 43 j_94) 68 n_95) 69 j_96) 70 j_97) 57 f_123) 58 f_124) 59 f_125) 60 f_126) 61 f_127) 62 f_128)) H := hP
                                  have hD : va_D A (mwd y ad zw (tI (tI (tI (tI (tJ (tJ (sJ (sJ (sI (sJ (sJ (sI (tI (tI (tI (tI (sI σ 73 i_135) 72 f_134) 63 f_84) 67 (σ.2.2.1 67)) 66 f_91) 44 n_92) 42 j_93) 43 j_94) 68 n_95) 69 j_96) 70 j_97) 57 f_123) 58 f_124) 59 f_125) 60 f_126) 61 f_127) 62 f_128)) := hD
                                  exact x_zretW (v := 1) (u := (i_135, f_134, f_84, (σ.2.2.1 67), f_91, n_92, j_93, j_94, n_95, j_96, j_97, f_123, f_124, f_125, f_126, f_127, f_128)) hx hb hr hQ rfl (by (try dsimp only); exact ⟨⟨Or.inr ⟨by omega, pf_134, by omega, rfl⟩, ho9, by omega, by omega, hl8⟩, hg_129, hg_130, hg_131, hvf_84⟩) hP hD hK hS dX12_works_637 hlocks
                      · exact absurd c_98 (by decide)
                · exact absurd c_88 (by decide)
              · exact absurd (by decide) c_87
            · exact absurd c_85 (by decide)
          · exact absurd (by decide) c_81
      · exact absurd c_6 (by decide)
    · exact absurd c_3 (by decide)
  · have kc_2 : i_1.toInt = 1000 := by have h9 := c_2; simp only [ge_iff_le, gt_iff_lt, x_lt, x_le, x_eq, ne_eq, Int32.not_lt, Int32.not_le] at h9; simp only [Int32.reduceToInt] at h9; omega
    refine lv_aload_n hx hb dX12_works_12 rfl (lv_at hl 0 rfl) ?_
    refine va_get (D := D) (ci := 11) (v := .ref (ad 67)) (C := RX12) (T := TX12) (N := 85) hx hb hts inX12 hown hK hP 0 mwd_o0 rfl 67 (by decide) fl154 (fun _ h9 => h9) rfl dX12_works_13 ?_
    refine lv_iload_n hx hb dX12_works_16 rfl (lv_at hl 1 rfl) ?_
    refine lv_iconst (v := 2) hx hb dX12_works_17 (by decide) ?_
    refine va_iast hx hb hK hP hD hS 47 2 mwd_a47 rfl (x_in (by decide) (by decide)) dX12_works_18 (fun H locs hP hD hS => ?_)
    obtain ⟨f_136, ef_136⟩ : ∃ z9 : Nat → Int32, z9 = (upd (σ.2.2.1 67) (Int32.toNatClampNeg 1) 2) := ⟨_, rfl⟩
    have hP : va_P D vwCl (mwd y ad zw (tI σ 67 f_136)) H := by rw [ef_136]; exact x_trP hP mwd_s47
    have hD : va_D A (mwd y ad zw (tI σ 67 f_136)) := by rw [ef_136]; exact x_trD hD mwd_s47
    refine lv_iconst (v := 0) hx hb dX12_works_19 (by decide) ?_
    have hP : va_P D vwCl (mwd y ad zw (tI (tI (tI (tI (tJ (tJ (sJ (sJ (sI (sJ (sJ (sI (tI (tI (tI (tI (sI σ 73 (σ.1 73)) 72 (σ.2.2.1 72)) 63 (σ.2.2.1 63)) 67 f_136) 66 (σ.2.2.1 66)) 44 (σ.1 44)) 42 (σ.2.1 42)) 43 (σ.2.1 43)) 68 (σ.1 68)) 69 (σ.2.1 69)) 70 (σ.2.1 70)) 57 (σ.2.2.2 57)) 58 (σ.2.2.2 58)) 59 (σ.2.2.1 59)) 60 (σ.2.2.1 60)) 61 (σ.2.2.1 61)) 62 (σ.2.2.1 62))) H := hP
    have hD : va_D A (mwd y ad zw (tI (tI (tI (tI (tJ (tJ (sJ (sJ (sI (sJ (sJ (sI (tI (tI (tI (tI (sI σ 73 (σ.1 73)) 72 (σ.2.2.1 72)) 63 (σ.2.2.1 63)) 67 f_136) 66 (σ.2.2.1 66)) 44 (σ.1 44)) 42 (σ.2.1 42)) 43 (σ.2.1 43)) 68 (σ.1 68)) 69 (σ.2.1 69)) 70 (σ.2.1 70)) 57 (σ.2.2.2 57)) 58 (σ.2.2.2 58)) 59 (σ.2.2.1 59)) 60 (σ.2.2.1 60)) 61 (σ.2.2.1 61)) 62 (σ.2.2.1 62))) := hD
    exact x_zretW (v := 0) (u := ((σ.1 73), (σ.2.2.1 72), (σ.2.2.1 63), f_136, (σ.2.2.1 66), (σ.1 44), (σ.2.1 42), (σ.2.1 43), (σ.1 68), (σ.2.1 69), (σ.2.1 70), (σ.2.2.2 57), (σ.2.2.2 58), (σ.2.2.1 59), (σ.2.2.1 60), (σ.2.2.1 61), (σ.2.2.1 62))) hx hb hr hQ rfl (by (try dsimp only); exact ⟨⟨Or.inl (by rw [ef_136]; show (upd _ 1 _ 1).toInt ≠ 0; rw [x_upd_same]; decide), hop, by omega, by omega, rfl⟩, hB57, hB58, hB62, hB63⟩) hP hD hK hS dX12_works_20 hlocks

