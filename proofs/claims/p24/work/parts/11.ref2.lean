theorem dX12_comes_0 : decode cX12_comes 0 = .ok (.lload_n 3, 1) := by decide +kernel
theorem dX12_comes_1 : decode cX12_comes 1 = .ok (.lconst 0, 1) := by decide +kernel
theorem dX12_comes_2 : decode cX12_comes 2 = .ok (.lcmp, 1) := by decide +kernel
theorem dX12_comes_3 : decode cX12_comes 3 = .ok (.ifCond .ne 19, 3) := by decide +kernel
theorem dX12_comes_6 : decode cX12_comes 6 = .ok (.aload_n 0, 1) := by decide +kernel
theorem dX12_comes_7 : decode cX12_comes 7 = .ok (.iconst 1, 1) := by decide +kernel
theorem dX12_comes_8 : decode cX12_comes 8 = .ok (.putfield 384, 3) := by decide +kernel
theorem dX12_comes_11 : decode cX12_comes 11 = .ok (.aload_n 0, 1) := by decide +kernel
theorem dX12_comes_12 : decode cX12_comes 12 = .ok (.lconst 0, 1) := by decide +kernel
theorem dX12_comes_13 : decode cX12_comes 13 = .ok (.putfield 387, 3) := by decide +kernel
theorem dX12_comes_16 : decode cX12_comes 16 = .ok (.aload_n 0, 1) := by decide +kernel
theorem dX12_comes_17 : decode cX12_comes 17 = .ok (.lconst 1, 1) := by decide +kernel
theorem dX12_comes_18 : decode cX12_comes 18 = .ok (.putfield 391, 3) := by decide +kernel
theorem dX12_comes_21 : decode cX12_comes 21 = .ok (.return_, 1) := by decide +kernel
theorem dX12_comes_22 : decode cX12_comes 22 = .ok (.lload_n 1, 1) := by decide +kernel
theorem dX12_comes_23 : decode cX12_comes 23 = .ok (.lload_n 3, 1) := by decide +kernel
theorem dX12_comes_24 : decode cX12_comes 24 = .ok (.invokestatic 394, 3) := by decide +kernel
theorem dX12_comes_27 : decode cX12_comes 27 = .ok (.lstore 5, 2) := by decide +kernel
theorem dX12_comes_29 : decode cX12_comes 29 = .ok (.lload_n 1, 1) := by decide +kernel
theorem dX12_comes_30 : decode cX12_comes 30 = .ok (.lload 5, 2) := by decide +kernel
theorem dX12_comes_32 : decode cX12_comes 32 = .ok (.ldiv, 1) := by decide +kernel
theorem dX12_comes_33 : decode cX12_comes 33 = .ok (.lstore 7, 2) := by decide +kernel
theorem dX12_comes_35 : decode cX12_comes 35 = .ok (.lload_n 3, 1) := by decide +kernel
theorem dX12_comes_36 : decode cX12_comes 36 = .ok (.lload 5, 2) := by decide +kernel
theorem dX12_comes_38 : decode cX12_comes 38 = .ok (.ldiv, 1) := by decide +kernel
theorem dX12_comes_39 : decode cX12_comes 39 = .ok (.lstore 9, 2) := by decide +kernel
theorem dX12_comes_41 : decode cX12_comes 41 = .ok (.lload 9, 2) := by decide +kernel
theorem dX12_comes_43 : decode cX12_comes 43 = .ok (.lconst 0, 1) := by decide +kernel
theorem dX12_comes_44 : decode cX12_comes 44 = .ok (.lcmp, 1) := by decide +kernel
theorem dX12_comes_45 : decode cX12_comes 45 = .ok (.ifCond .ge 13, 3) := by decide +kernel
theorem dX12_comes_48 : decode cX12_comes 48 = .ok (.lload 7, 2) := by decide +kernel
theorem dX12_comes_50 : decode cX12_comes 50 = .ok (.lneg, 1) := by decide +kernel
theorem dX12_comes_51 : decode cX12_comes 51 = .ok (.lstore 7, 2) := by decide +kernel
theorem dX12_comes_53 : decode cX12_comes 53 = .ok (.lload 9, 2) := by decide +kernel
theorem dX12_comes_55 : decode cX12_comes 55 = .ok (.lneg, 1) := by decide +kernel
theorem dX12_comes_56 : decode cX12_comes 56 = .ok (.lstore 9, 2) := by decide +kernel
theorem dX12_comes_58 : decode cX12_comes 58 = .ok (.lload 7, 2) := by decide +kernel
theorem dX12_comes_60 : decode cX12_comes 60 = .ok (.invokestatic 380, 3) := by decide +kernel
theorem dX12_comes_63 : decode cX12_comes 63 = .ok (.ldc2_w 398, 3) := by decide +kernel
theorem dX12_comes_66 : decode cX12_comes 66 = .ok (.lcmp, 1) := by decide +kernel
theorem dX12_comes_67 : decode cX12_comes 67 = .ok (.ifCond .gt 12, 3) := by decide +kernel
theorem dX12_comes_70 : decode cX12_comes 70 = .ok (.lload 9, 2) := by decide +kernel
theorem dX12_comes_72 : decode cX12_comes 72 = .ok (.ldc2_w 398, 3) := by decide +kernel
theorem dX12_comes_75 : decode cX12_comes 75 = .ok (.lcmp, 1) := by decide +kernel
theorem dX12_comes_76 : decode cX12_comes 76 = .ok (.ifCond .le 14, 3) := by decide +kernel
theorem dX12_comes_79 : decode cX12_comes 79 = .ok (.aload_n 0, 1) := by decide +kernel
theorem dX12_comes_80 : decode cX12_comes 80 = .ok (.iconst 1, 1) := by decide +kernel
theorem dX12_comes_81 : decode cX12_comes 81 = .ok (.putfield 384, 3) := by decide +kernel
theorem dX12_comes_84 : decode cX12_comes 84 = .ok (.lconst 0, 1) := by decide +kernel
theorem dX12_comes_85 : decode cX12_comes 85 = .ok (.lstore 7, 2) := by decide +kernel
theorem dX12_comes_87 : decode cX12_comes 87 = .ok (.lconst 1, 1) := by decide +kernel
theorem dX12_comes_88 : decode cX12_comes 88 = .ok (.lstore 9, 2) := by decide +kernel
theorem dX12_comes_90 : decode cX12_comes 90 = .ok (.aload_n 0, 1) := by decide +kernel
theorem dX12_comes_91 : decode cX12_comes 91 = .ok (.lload 7, 2) := by decide +kernel
theorem dX12_comes_93 : decode cX12_comes 93 = .ok (.putfield 387, 3) := by decide +kernel
theorem dX12_comes_96 : decode cX12_comes 96 = .ok (.aload_n 0, 1) := by decide +kernel
theorem dX12_comes_97 : decode cX12_comes 97 = .ok (.lload 9, 2) := by decide +kernel
theorem dX12_comes_99 : decode cX12_comes 99 = .ok (.putfield 391, 3) := by decide +kernel
theorem dX12_comes_102 : decode cX12_comes 102 = .ok (.return_, 1) := by decide +kernel
theorem dX12_adds_0 : decode cX12_adds 0 = .ok (.aload_n 0, 1) := by decide +kernel
theorem dX12_adds_1 : decode cX12_adds 1 = .ok (.lload_n 1, 1) := by decide +kernel
theorem dX12_adds_2 : decode cX12_adds 2 = .ok (.lload 7, 2) := by decide +kernel
theorem dX12_adds_4 : decode cX12_adds 4 = .ok (.lmul, 1) := by decide +kernel
theorem dX12_adds_5 : decode cX12_adds 5 = .ok (.lload 5, 2) := by decide +kernel
theorem dX12_adds_7 : decode cX12_adds 7 = .ok (.lload_n 3, 1) := by decide +kernel
theorem dX12_adds_8 : decode cX12_adds 8 = .ok (.lmul, 1) := by decide +kernel
theorem dX12_adds_9 : decode cX12_adds 9 = .ok (.ladd, 1) := by decide +kernel
theorem dX12_adds_10 : decode cX12_adds 10 = .ok (.lload_n 3, 1) := by decide +kernel
theorem dX12_adds_11 : decode cX12_adds 11 = .ok (.lload 7, 2) := by decide +kernel
theorem dX12_adds_13 : decode cX12_adds 13 = .ok (.lmul, 1) := by decide +kernel
theorem dX12_adds_14 : decode cX12_adds 14 = .ok (.invokevirtual 400, 3) := by decide +kernel
theorem dX12_adds_17 : decode cX12_adds 17 = .ok (.return_, 1) := by decide +kernel
theorem dX12_takesOff_0 : decode cX12_takesOff 0 = .ok (.aload_n 0, 1) := by decide +kernel
theorem dX12_takesOff_1 : decode cX12_takesOff 1 = .ok (.lload_n 1, 1) := by decide +kernel
theorem dX12_takesOff_2 : decode cX12_takesOff 2 = .ok (.lload 7, 2) := by decide +kernel
theorem dX12_takesOff_4 : decode cX12_takesOff 4 = .ok (.lmul, 1) := by decide +kernel
theorem dX12_takesOff_5 : decode cX12_takesOff 5 = .ok (.lload 5, 2) := by decide +kernel
theorem dX12_takesOff_7 : decode cX12_takesOff 7 = .ok (.lload_n 3, 1) := by decide +kernel
theorem dX12_takesOff_8 : decode cX12_takesOff 8 = .ok (.lmul, 1) := by decide +kernel
theorem dX12_takesOff_9 : decode cX12_takesOff 9 = .ok (.lsub, 1) := by decide +kernel
theorem dX12_takesOff_10 : decode cX12_takesOff 10 = .ok (.lload_n 3, 1) := by decide +kernel
theorem dX12_takesOff_11 : decode cX12_takesOff 11 = .ok (.lload 7, 2) := by decide +kernel
theorem dX12_takesOff_13 : decode cX12_takesOff 13 = .ok (.lmul, 1) := by decide +kernel
theorem dX12_takesOff_14 : decode cX12_takesOff 14 = .ok (.invokevirtual 400, 3) := by decide +kernel
theorem dX12_takesOff_17 : decode cX12_takesOff 17 = .ok (.return_, 1) := by decide +kernel
theorem dX12_multiplies_0 : decode cX12_multiplies 0 = .ok (.aload_n 0, 1) := by decide +kernel
theorem dX12_multiplies_1 : decode cX12_multiplies 1 = .ok (.lload_n 1, 1) := by decide +kernel
theorem dX12_multiplies_2 : decode cX12_multiplies 2 = .ok (.lload 5, 2) := by decide +kernel
theorem dX12_multiplies_4 : decode cX12_multiplies 4 = .ok (.lmul, 1) := by decide +kernel
theorem dX12_multiplies_5 : decode cX12_multiplies 5 = .ok (.lload_n 3, 1) := by decide +kernel
theorem dX12_multiplies_6 : decode cX12_multiplies 6 = .ok (.lload 7, 2) := by decide +kernel
theorem dX12_multiplies_8 : decode cX12_multiplies 8 = .ok (.lmul, 1) := by decide +kernel
theorem dX12_multiplies_9 : decode cX12_multiplies 9 = .ok (.invokevirtual 400, 3) := by decide +kernel
theorem dX12_multiplies_12 : decode cX12_multiplies 12 = .ok (.return_, 1) := by decide +kernel
theorem dX12_divides_0 : decode cX12_divides 0 = .ok (.aload_n 0, 1) := by decide +kernel
theorem dX12_divides_1 : decode cX12_divides 1 = .ok (.lload_n 1, 1) := by decide +kernel
theorem dX12_divides_2 : decode cX12_divides 2 = .ok (.lload 7, 2) := by decide +kernel
theorem dX12_divides_4 : decode cX12_divides 4 = .ok (.lmul, 1) := by decide +kernel
theorem dX12_divides_5 : decode cX12_divides 5 = .ok (.lload_n 3, 1) := by decide +kernel
theorem dX12_divides_6 : decode cX12_divides 6 = .ok (.lload 5, 2) := by decide +kernel
theorem dX12_divides_8 : decode cX12_divides 8 = .ok (.lmul, 1) := by decide +kernel
theorem dX12_divides_9 : decode cX12_divides 9 = .ok (.invokevirtual 400, 3) := by decide +kernel
theorem dX12_divides_12 : decode cX12_divides 12 = .ok (.return_, 1) := by decide +kernel
theorem dX12_lets_0 : decode cX12_lets 0 = .ok (.aload_n 0, 1) := by decide +kernel
theorem dX12_lets_1 : decode cX12_lets 1 = .ok (.getfield 167, 3) := by decide +kernel
theorem dX12_lets_4 : decode cX12_lets 4 = .ok (.sipush 1760, 3) := by decide +kernel
theorem dX12_lets_7 : decode cX12_lets 7 = .ok (.iload_n 1, 1) := by decide +kernel
theorem dX12_lets_8 : decode cX12_lets 8 = .ok (.imul, 1) := by decide +kernel
theorem dX12_lets_9 : decode cX12_lets 9 = .ok (.iload_n 2, 1) := by decide +kernel
theorem dX12_lets_10 : decode cX12_lets 10 = .ok (.iadd, 1) := by decide +kernel
theorem dX12_lets_11 : decode cX12_lets 11 = .ok (.lload_n 3, 1) := by decide +kernel
theorem dX12_lets_12 : decode cX12_lets 12 = .ok (.lastore, 1) := by decide +kernel
theorem dX12_lets_13 : decode cX12_lets 13 = .ok (.aload_n 0, 1) := by decide +kernel
theorem dX12_lets_14 : decode cX12_lets 14 = .ok (.getfield 170, 3) := by decide +kernel
theorem dX12_lets_17 : decode cX12_lets 17 = .ok (.sipush 1760, 3) := by decide +kernel
theorem dX12_lets_20 : decode cX12_lets 20 = .ok (.iload_n 1, 1) := by decide +kernel
theorem dX12_lets_21 : decode cX12_lets 21 = .ok (.imul, 1) := by decide +kernel
theorem dX12_lets_22 : decode cX12_lets 22 = .ok (.iload_n 2, 1) := by decide +kernel
theorem dX12_lets_23 : decode cX12_lets 23 = .ok (.iadd, 1) := by decide +kernel
theorem dX12_lets_24 : decode cX12_lets 24 = .ok (.lload 5, 2) := by decide +kernel
theorem dX12_lets_26 : decode cX12_lets 26 = .ok (.lastore, 1) := by decide +kernel
theorem dX12_lets_27 : decode cX12_lets 27 = .ok (.return_, 1) := by decide +kernel
theorem dX12_shares_0 : decode cX12_shares 0 = .ok (.aload_n 0, 1) := by decide +kernel
theorem dX12_shares_1 : decode cX12_shares 1 = .ok (.aload_n 0, 1) := by decide +kernel
theorem dX12_shares_2 : decode cX12_shares 2 = .ok (.getfield 167, 3) := by decide +kernel
theorem dX12_shares_5 : decode cX12_shares 5 = .ok (.iload_n 1, 1) := by decide +kernel
theorem dX12_shares_6 : decode cX12_shares 6 = .ok (.laload, 1) := by decide +kernel
theorem dX12_shares_7 : decode cX12_shares 7 = .ok (.aload_n 0, 1) := by decide +kernel
theorem dX12_shares_8 : decode cX12_shares 8 = .ok (.getfield 170, 3) := by decide +kernel
theorem dX12_shares_11 : decode cX12_shares 11 = .ok (.iload_n 1, 1) := by decide +kernel
theorem dX12_shares_12 : decode cX12_shares 12 = .ok (.laload, 1) := by decide +kernel
theorem dX12_shares_13 : decode cX12_shares 13 = .ok (.lload_n 2, 1) := by decide +kernel
theorem dX12_shares_14 : decode cX12_shares 14 = .ok (.lload 4, 2) := by decide +kernel
theorem dX12_shares_16 : decode cX12_shares 16 = .ok (.invokevirtual 424, 3) := by decide +kernel
theorem dX12_shares_19 : decode cX12_shares 19 = .ok (.aload_n 0, 1) := by decide +kernel
theorem dX12_shares_20 : decode cX12_shares 20 = .ok (.iconst 0, 1) := by decide +kernel
theorem dX12_shares_21 : decode cX12_shares 21 = .ok (.iload_n 1, 1) := by decide +kernel
theorem dX12_shares_22 : decode cX12_shares 22 = .ok (.aload_n 0, 1) := by decide +kernel
theorem dX12_shares_23 : decode cX12_shares 23 = .ok (.getfield 387, 3) := by decide +kernel
theorem dX12_shares_26 : decode cX12_shares 26 = .ok (.aload_n 0, 1) := by decide +kernel
theorem dX12_shares_27 : decode cX12_shares 27 = .ok (.getfield 391, 3) := by decide +kernel
theorem dX12_shares_30 : decode cX12_shares 30 = .ok (.invokevirtual 457, 3) := by decide +kernel
theorem dX12_shares_33 : decode cX12_shares 33 = .ok (.return_, 1) := by decide +kernel
def v_q_comes : List Cond := .code yX12_comes cX12_comes 11 none :: ([.fieldLink RX12 384 "SlopeRunnerModel" "isStuck" "Z", .fieldLink RX12 387 "SlopeRunnerModel" "up" "J", .fieldLink RX12 391 "SlopeRunnerModel" "down" "J", .constantLong RX12 398 1000000000] ++ ((wsS RX12 394 yX12_common v_q_common) ++ ((wsS RX12 380 yX12_size v_q_size) ++ wsX120)))
theorem g_q_comes_0 : GoodIn v_q_comes (wsS RX12 394 yX12_common v_q_common) := goodIn_sub (fun w h => List.mem_cons_of_mem _ (List.mem_append_right _ (List.mem_append_left _ h))) (by decide +kernel)
theorem g_q_comes_1 : GoodIn v_q_comes (wsS RX12 380 yX12_size v_q_size) := goodIn_sub (fun w h => List.mem_cons_of_mem _ (List.mem_append_right _ (List.mem_append_right _ (List.mem_append_left _ h)))) (by decide +kernel)
set_option maxHeartbeats 4000000 in
set_option maxRecDepth 100000 in
theorem q_comes (l : Launch) (D : va_G) (y : Nat → ClassId) (sz : Nat) (ad : Nat → Nat) (zw : Nat → Nat → Int32) (σ : OS) (a b : Int64) (ha0 : -4000000000000000000 ≤ a.toInt) (ha1 : a.toInt ≤ 4000000000000000000) (hb0 : -4000000000000000000 ≤ b.toInt) (hb1 : b.toInt ≤ 4000000000000000000) : Met l yX12_comes v_q_comes ({ frames := 2, cells := 0, slots := 0, locals := 50 } : Room) (va_Pc [.ref (ad 1), .long a, .long b] (xPre D (xT y) (mwd y ad zw σ) sz)) (va_Qv (fun (u : Int32 × Int64 × Int64) => -1000000000 ≤ u.2.1.toInt ∧ u.2.1.toInt ≤ 1000000000 ∧ 0 ≤ u.2.2.toInt ∧ u.2.2.toInt ≤ 1000000000) (fun (u : Int32 × Int64 × Int64) => xB D (xT y) (va_A (mwd y ad zw σ) sz) (mwd y ad zw (sJ (sJ (sI σ 44 u.1) 42 u.2.1) 43 u.2.2))) (va_A (mwd y ad zw σ) sz)) 0 0 (va_A (mwd y ad zw σ) sz) := by
  refine x_metv (cc := cX12_comes) (maxL := 11) (by decide) rfl (Nat.le_of_ble_eq_true rfl) ?_
  intro p e s m below meth c A H locs Q hx hb hml hown hts hr hlocks hmn hA hP hK hD hS ls hl hQ
  have hl : lv_has ls 11 [(0, .ref (ad 1)), (1, .long a), (3, .long b)] := hl
  have fl384 := hts (.fieldLink RX12 384 "SlopeRunnerModel" "isStuck" "Z") (List.mem_of_getElem? (i := 1) rfl)
  have inX12 : ∀ w ∈ wsX120, w ∈ v_q_comes := (fun w h => List.mem_cons_of_mem _ (List.mem_append_right _ (List.mem_append_right _ (List.mem_append_right _ h))))
  have fl387 := hts (.fieldLink RX12 387 "SlopeRunnerModel" "up" "J") (List.mem_of_getElem? (i := 2) rfl)
  have fl391 := hts (.fieldLink RX12 391 "SlopeRunnerModel" "down" "J") (List.mem_of_getElem? (i := 3) rfl)
  refine lv_lload_n hx hb dX12_comes_0 rfl (lv_at hl 2 rfl) ?_
  refine lv_lconst (v := 0) hx hb dX12_comes_1 (by decide) ?_
  refine W.lcmp hx hb dX12_comes_2 ?_
  refine lv_if_ne (tgt := 22) hx hb dX12_comes_3 (by decide) (fun c_1 => ?_) (fun c_1 => ?_)
  · have kc_1 : b.toInt ≠ 0 := by have h9 := x_tri b (0 : Int64); (try simp only [Int64.reduceToInt] at h9); rcases h9 with ⟨g1, g2⟩ | ⟨g1, g2⟩ | ⟨g1, g2⟩ <;> first | omega | (exfalso; rw [g1] at c_1; revert c_1; decide)
    refine lv_lload_n hx hb dX12_comes_22 rfl (lv_at hl 1 rfl) ?_
    refine lv_lload_n hx hb dX12_comes_23 rfl (lv_at hl 2 rfl) ?_
    refine x_calllN (va_runS (As := [.long a, .long b]) (rest := []) ⟨hx, hb, hml, hown, hts⟩ (q_common l D y H.size a b (by first | omega | decide) (by first | omega | decide) (by first | omega | decide) (by first | omega | decide)) (cwS 2 hts g_q_comes_0 rfl rfl rfl (by decide +kernel) ⟨Nat.le_of_ble_eq_true rfl, Nat.le_of_ble_eq_true rfl⟩) (x_preS hK (x_nilP D H) (x_nilD A)) rfl rfl hl.1 rfl (lv_room (Nat.le_of_ble_eq_true rfl)) dX12_comes_24 ⟨Nat.le_of_ble_eq_true rfl, Nat.le_of_ble_eq_true rfl⟩) hP hD hS hA (fun r_2 u H locs hw hP hD hS => ?_)
    try dsimp only at hw
    refine lv_lstore (lv' := [(5, .long r_2), (0, .ref (ad 1)), (1, .long a), (3, .long b)]) hx hb dX12_comes_27 hl (by decide) rfl (fun ls hl => ?_)
    refine lv_lload_n hx hb dX12_comes_29 rfl (lv_at hl 2 rfl) ?_
    refine lv_lload hx hb dX12_comes_30 (lv_at hl 0 rfl) ?_
    refine lv_ldiv hx hb dX12_comes_32 (fun h9 => absurd (show r_2.toInt = 0 by rw [h9]; rfl) (by omega)) ?_
    refine lv_topl (fun j_3 ej_3 => ?_)
    have vj_3 := x_divL ej_3 (by omega)
    refine lv_lstore (lv' := [(7, .long j_3), (5, .long r_2), (0, .ref (ad 1)), (1, .long a), (3, .long b)]) hx hb dX12_comes_33 hl (by decide) rfl (fun ls hl => ?_)
    refine lv_lload_n hx hb dX12_comes_35 rfl (lv_at hl 4 rfl) ?_
    refine lv_lload hx hb dX12_comes_36 (lv_at hl 1 rfl) ?_
    refine lv_ldiv hx hb dX12_comes_38 (fun h9 => absurd (show r_2.toInt = 0 by rw [h9]; rfl) (by omega)) ?_
    refine lv_topl (fun j_4 ej_4 => ?_)
    have vj_4 := x_divL ej_4 (by omega)
    refine lv_lstore (lv' := [(9, .long j_4), (7, .long j_3), (5, .long r_2), (0, .ref (ad 1)), (1, .long a), (3, .long b)]) hx hb dX12_comes_39 hl (by decide) rfl (fun ls hl => ?_)
    refine lv_lload hx hb dX12_comes_41 (lv_at hl 0 rfl) ?_
    refine lv_lconst (v := 0) hx hb dX12_comes_43 (by decide) ?_
    refine W.lcmp hx hb dX12_comes_44 ?_
    refine lv_if_ge (tgt := 58) hx hb dX12_comes_45 (by decide) (fun c_5 => ?_) (fun c_5 => ?_)
    · have kc_5 : j_4.toInt ≥ 0 := by have h9 := x_tri j_4 (0 : Int64); (try simp only [Int64.reduceToInt] at h9); rcases h9 with ⟨g1, g2⟩ | ⟨g1, g2⟩ | ⟨g1, g2⟩ <;> first | omega | (exfalso; rw [g1] at c_5; revert c_5; decide)
      refine lv_lload hx hb dX12_comes_58 (lv_at hl 1 rfl) ?_
      refine x_calllN (va_runS (As := [.long j_3]) (rest := []) ⟨hx, hb, hml, hown, hts⟩ (q_size l D y H.size j_3 (by first | omega | decide)) (cwS 1 hts g_q_comes_1 rfl rfl rfl (by decide +kernel) ⟨Nat.le_of_ble_eq_true rfl, Nat.le_of_ble_eq_true rfl⟩) (x_preS hK (x_nilP D H) (x_nilD A)) rfl rfl hl.1 rfl (lv_room (Nat.le_of_ble_eq_true rfl)) dX12_comes_60 ⟨Nat.le_of_ble_eq_true rfl, Nat.le_of_ble_eq_true rfl⟩) hP hD hS hA (fun r_6 u H locs hw hP hD hS => ?_)
      try dsimp only at hw
      refine lv_ldc2 (v := 1000000000) hx hb hown (hts (.constantLong RX12 398 1000000000) (List.mem_of_getElem? (i := 4) rfl)) dX12_comes_63 ?_
      refine W.lcmp hx hb dX12_comes_66 ?_
      refine lv_if_gt (tgt := 79) hx hb dX12_comes_67 (by decide) (fun c_7 => ?_) (fun c_7 => ?_)
      · have kc_7 : r_6.toInt > 1000000000 := by have h9 := x_tri r_6 (1000000000 : Int64); (try simp only [Int64.reduceToInt] at h9); rcases h9 with ⟨g1, g2⟩ | ⟨g1, g2⟩ | ⟨g1, g2⟩ <;> first | omega | (exfalso; rw [g1] at c_7; revert c_7; decide)
        refine lv_aload_n hx hb dX12_comes_79 rfl (lv_at hl 3 rfl) ?_
        refine lv_iconst (v := 1) hx hb dX12_comes_80 (by decide) ?_
        refine va_put (D := D) (ci := 11) (v := .int 1) (ty := .boolean) (C := RX12) (T := TX12) (N := 85) hx hb hts inX12 tyX12 tyX12_ok nmX12 hown hK hP hD hS 0 mwd_o0 rfl 44 (by decide) fl384 (fun _ h9 => h9) rfl (by decide +kernel) rfl rfl (Nat.le_of_ble_eq_true rfl) dX12_comes_81 (fun H locs hP hD hS => ?_)
        have hP : va_P D vwCl (mwd y ad zw (sI σ 44 1)) H := x_trP hP mwd_p0_44
        have hD : va_D A (mwd y ad zw (sI σ 44 1)) := x_trD hD mwd_p0_44
        refine lv_lconst (v := 0) hx hb dX12_comes_84 (by decide) ?_
        refine lv_lstore (lv' := [(7, .long 0), (9, .long j_4), (5, .long r_2), (0, .ref (ad 1)), (1, .long a), (3, .long b)]) hx hb dX12_comes_85 hl (by decide) rfl (fun ls hl => ?_)
        refine lv_lconst (v := 1) hx hb dX12_comes_87 (by decide) ?_
        refine lv_lstore (lv' := [(9, .long 1), (7, .long 0), (5, .long r_2), (0, .ref (ad 1)), (1, .long a), (3, .long b)]) hx hb dX12_comes_88 hl (by decide) rfl (fun ls hl => ?_)
        refine lv_aload_n hx hb dX12_comes_90 rfl (lv_at hl 3 rfl) ?_
        refine lv_lload hx hb dX12_comes_91 (lv_at hl 1 rfl) ?_
        refine va_put (D := D) (ci := 11) (v := .long 0) (ty := .long) (C := RX12) (T := TX12) (N := 85) hx hb hts inX12 tyX12 tyX12_ok nmX12 hown hK hP hD hS 0 mwd_o0 rfl 42 (by decide) fl387 (fun _ h9 => h9) rfl (by decide +kernel) rfl rfl (Nat.le_of_ble_eq_true rfl) dX12_comes_93 (fun H locs hP hD hS => ?_)
        have hP : va_P D vwCl (mwd y ad zw (sJ (sI σ 44 1) 42 0)) H := x_trP hP mwd_p0_42
        have hD : va_D A (mwd y ad zw (sJ (sI σ 44 1) 42 0)) := x_trD hD mwd_p0_42
        refine lv_aload_n hx hb dX12_comes_96 rfl (lv_at hl 3 rfl) ?_
        refine lv_lload hx hb dX12_comes_97 (lv_at hl 0 rfl) ?_
        refine va_put (D := D) (ci := 11) (v := .long 1) (ty := .long) (C := RX12) (T := TX12) (N := 85) hx hb hts inX12 tyX12 tyX12_ok nmX12 hown hK hP hD hS 0 mwd_o0 rfl 43 (by decide) fl391 (fun _ h9 => h9) rfl (by decide +kernel) rfl rfl (Nat.le_of_ble_eq_true rfl) dX12_comes_99 (fun H locs hP hD hS => ?_)
        have hP : va_P D vwCl (mwd y ad zw (sJ (sJ (sI σ 44 1) 42 0) 43 1)) H := x_trP hP mwd_p0_43
        have hD : va_D A (mwd y ad zw (sJ (sJ (sI σ 44 1) 42 0) 43 1)) := x_trD hD mwd_p0_43
        exact x_vretW (u := (1, 0, 1)) hx hb hr hQ (by (try dsimp only); exact ⟨(by have h7_0 : (0 : Int64).toInt = 0 := rfl; have h7_1 : (1 : Int64).toInt = 1 := rfl; first | omega | (simp only [Int64.reduceToInt] at *; omega)), (by have h7_0 : (0 : Int64).toInt = 0 := rfl; have h7_1 : (1 : Int64).toInt = 1 := rfl; first | omega | (simp only [Int64.reduceToInt] at *; omega)), (by have h7_0 : (0 : Int64).toInt = 0 := rfl; have h7_1 : (1 : Int64).toInt = 1 := rfl; first | omega | (simp only [Int64.reduceToInt] at *; omega)), (by have h7_0 : (0 : Int64).toInt = 0 := rfl; have h7_1 : (1 : Int64).toInt = 1 := rfl; first | omega | (simp only [Int64.reduceToInt] at *; omega))⟩) hP hD hK hS dX12_comes_102 hlocks
      · have kc_7 : r_6.toInt ≤ 1000000000 := by have h9 := x_tri r_6 (1000000000 : Int64); (try simp only [Int64.reduceToInt] at h9); rcases h9 with ⟨g1, g2⟩ | ⟨g1, g2⟩ | ⟨g1, g2⟩ <;> first | omega | (exfalso; rw [g1] at c_7; revert c_7; decide)
        refine lv_lload hx hb dX12_comes_70 (lv_at hl 0 rfl) ?_
        refine lv_ldc2 (v := 1000000000) hx hb hown (hts (.constantLong RX12 398 1000000000) (List.mem_of_getElem? (i := 4) rfl)) dX12_comes_72 ?_
        refine W.lcmp hx hb dX12_comes_75 ?_
        refine lv_if_le (tgt := 90) hx hb dX12_comes_76 (by decide) (fun c_8 => ?_) (fun c_8 => ?_)
        · have kc_8 : j_4.toInt ≤ 1000000000 := by have h9 := x_tri j_4 (1000000000 : Int64); (try simp only [Int64.reduceToInt] at h9); rcases h9 with ⟨g1, g2⟩ | ⟨g1, g2⟩ | ⟨g1, g2⟩ <;> first | omega | (exfalso; rw [g1] at c_8; revert c_8; decide)
          refine lv_aload_n hx hb dX12_comes_90 rfl (lv_at hl 3 rfl) ?_
          refine lv_lload hx hb dX12_comes_91 (lv_at hl 1 rfl) ?_
          refine va_put (D := D) (ci := 11) (v := .long j_3) (ty := .long) (C := RX12) (T := TX12) (N := 85) hx hb hts inX12 tyX12 tyX12_ok nmX12 hown hK hP hD hS 0 mwd_o0 rfl 42 (by decide) fl387 (fun _ h9 => h9) rfl (by decide +kernel) rfl rfl (Nat.le_of_ble_eq_true rfl) dX12_comes_93 (fun H locs hP hD hS => ?_)
          have hP : va_P D vwCl (mwd y ad zw (sJ σ 42 j_3)) H := x_trP hP mwd_p0_42
          have hD : va_D A (mwd y ad zw (sJ σ 42 j_3)) := x_trD hD mwd_p0_42
          refine lv_aload_n hx hb dX12_comes_96 rfl (lv_at hl 3 rfl) ?_
          refine lv_lload hx hb dX12_comes_97 (lv_at hl 0 rfl) ?_
          refine va_put (D := D) (ci := 11) (v := .long j_4) (ty := .long) (C := RX12) (T := TX12) (N := 85) hx hb hts inX12 tyX12 tyX12_ok nmX12 hown hK hP hD hS 0 mwd_o0 rfl 43 (by decide) fl391 (fun _ h9 => h9) rfl (by decide +kernel) rfl rfl (Nat.le_of_ble_eq_true rfl) dX12_comes_99 (fun H locs hP hD hS => ?_)
          have hP : va_P D vwCl (mwd y ad zw (sJ (sJ σ 42 j_3) 43 j_4)) H := x_trP hP mwd_p0_43
          have hD : va_D A (mwd y ad zw (sJ (sJ σ 42 j_3) 43 j_4)) := x_trD hD mwd_p0_43
          have hP : va_P D vwCl (mwd y ad zw (sJ (sJ (sI σ 44 (σ.1 44)) 42 j_3) 43 j_4)) H := hP
          have hD : va_D A (mwd y ad zw (sJ (sJ (sI σ 44 (σ.1 44)) 42 j_3) 43 j_4)) := hD
          exact x_vretW (u := ((σ.1 44), j_3, j_4)) hx hb hr hQ (by (try dsimp only); exact ⟨(by have h7_0 : (0 : Int64).toInt = 0 := rfl; have h7_1 : (1 : Int64).toInt = 1 := rfl; first | omega | (simp only [Int64.reduceToInt] at *; omega)), (by have h7_0 : (0 : Int64).toInt = 0 := rfl; have h7_1 : (1 : Int64).toInt = 1 := rfl; first | omega | (simp only [Int64.reduceToInt] at *; omega)), (by have h7_0 : (0 : Int64).toInt = 0 := rfl; have h7_1 : (1 : Int64).toInt = 1 := rfl; first | omega | (simp only [Int64.reduceToInt] at *; omega)), (by have h7_0 : (0 : Int64).toInt = 0 := rfl; have h7_1 : (1 : Int64).toInt = 1 := rfl; first | omega | (simp only [Int64.reduceToInt] at *; omega))⟩) hP hD hK hS dX12_comes_102 hlocks
        · have kc_8 : j_4.toInt > 1000000000 := by have h9 := x_tri j_4 (1000000000 : Int64); (try simp only [Int64.reduceToInt] at h9); rcases h9 with ⟨g1, g2⟩ | ⟨g1, g2⟩ | ⟨g1, g2⟩ <;> first | omega | (exfalso; rw [g1] at c_8; revert c_8; decide)
          refine lv_aload_n hx hb dX12_comes_79 rfl (lv_at hl 3 rfl) ?_
          refine lv_iconst (v := 1) hx hb dX12_comes_80 (by decide) ?_
          refine va_put (D := D) (ci := 11) (v := .int 1) (ty := .boolean) (C := RX12) (T := TX12) (N := 85) hx hb hts inX12 tyX12 tyX12_ok nmX12 hown hK hP hD hS 0 mwd_o0 rfl 44 (by decide) fl384 (fun _ h9 => h9) rfl (by decide +kernel) rfl rfl (Nat.le_of_ble_eq_true rfl) dX12_comes_81 (fun H locs hP hD hS => ?_)
          have hP : va_P D vwCl (mwd y ad zw (sI σ 44 1)) H := x_trP hP mwd_p0_44
          have hD : va_D A (mwd y ad zw (sI σ 44 1)) := x_trD hD mwd_p0_44
          refine lv_lconst (v := 0) hx hb dX12_comes_84 (by decide) ?_
          refine lv_lstore (lv' := [(7, .long 0), (9, .long j_4), (5, .long r_2), (0, .ref (ad 1)), (1, .long a), (3, .long b)]) hx hb dX12_comes_85 hl (by decide) rfl (fun ls hl => ?_)
          refine lv_lconst (v := 1) hx hb dX12_comes_87 (by decide) ?_
          refine lv_lstore (lv' := [(9, .long 1), (7, .long 0), (5, .long r_2), (0, .ref (ad 1)), (1, .long a), (3, .long b)]) hx hb dX12_comes_88 hl (by decide) rfl (fun ls hl => ?_)
          refine lv_aload_n hx hb dX12_comes_90 rfl (lv_at hl 3 rfl) ?_
          refine lv_lload hx hb dX12_comes_91 (lv_at hl 1 rfl) ?_
          refine va_put (D := D) (ci := 11) (v := .long 0) (ty := .long) (C := RX12) (T := TX12) (N := 85) hx hb hts inX12 tyX12 tyX12_ok nmX12 hown hK hP hD hS 0 mwd_o0 rfl 42 (by decide) fl387 (fun _ h9 => h9) rfl (by decide +kernel) rfl rfl (Nat.le_of_ble_eq_true rfl) dX12_comes_93 (fun H locs hP hD hS => ?_)
          have hP : va_P D vwCl (mwd y ad zw (sJ (sI σ 44 1) 42 0)) H := x_trP hP mwd_p0_42
          have hD : va_D A (mwd y ad zw (sJ (sI σ 44 1) 42 0)) := x_trD hD mwd_p0_42
          refine lv_aload_n hx hb dX12_comes_96 rfl (lv_at hl 3 rfl) ?_
          refine lv_lload hx hb dX12_comes_97 (lv_at hl 0 rfl) ?_
          refine va_put (D := D) (ci := 11) (v := .long 1) (ty := .long) (C := RX12) (T := TX12) (N := 85) hx hb hts inX12 tyX12 tyX12_ok nmX12 hown hK hP hD hS 0 mwd_o0 rfl 43 (by decide) fl391 (fun _ h9 => h9) rfl (by decide +kernel) rfl rfl (Nat.le_of_ble_eq_true rfl) dX12_comes_99 (fun H locs hP hD hS => ?_)
          have hP : va_P D vwCl (mwd y ad zw (sJ (sJ (sI σ 44 1) 42 0) 43 1)) H := x_trP hP mwd_p0_43
          have hD : va_D A (mwd y ad zw (sJ (sJ (sI σ 44 1) 42 0) 43 1)) := x_trD hD mwd_p0_43
          exact x_vretW (u := (1, 0, 1)) hx hb hr hQ (by (try dsimp only); exact ⟨(by have h7_0 : (0 : Int64).toInt = 0 := rfl; have h7_1 : (1 : Int64).toInt = 1 := rfl; first | omega | (simp only [Int64.reduceToInt] at *; omega)), (by have h7_0 : (0 : Int64).toInt = 0 := rfl; have h7_1 : (1 : Int64).toInt = 1 := rfl; first | omega | (simp only [Int64.reduceToInt] at *; omega)), (by have h7_0 : (0 : Int64).toInt = 0 := rfl; have h7_1 : (1 : Int64).toInt = 1 := rfl; first | omega | (simp only [Int64.reduceToInt] at *; omega)), (by have h7_0 : (0 : Int64).toInt = 0 := rfl; have h7_1 : (1 : Int64).toInt = 1 := rfl; first | omega | (simp only [Int64.reduceToInt] at *; omega))⟩) hP hD hK hS dX12_comes_102 hlocks
    · have kc_5 : j_4.toInt < 0 := by have h9 := x_tri j_4 (0 : Int64); (try simp only [Int64.reduceToInt] at h9); rcases h9 with ⟨g1, g2⟩ | ⟨g1, g2⟩ | ⟨g1, g2⟩ <;> first | omega | (exfalso; rw [g1] at c_5; revert c_5; decide)
      refine lv_lload hx hb dX12_comes_48 (lv_at hl 1 rfl) ?_
      refine lv_lneg hx hb dX12_comes_50 ?_
      refine lv_topl (fun j_9 ej_9 => ?_)
      have vj_9 : j_9.toInt = -j_3.toInt := by have h9 := x_negL ej_9 (by omega); omega
      refine lv_lstore (lv' := [(7, .long j_9), (9, .long j_4), (5, .long r_2), (0, .ref (ad 1)), (1, .long a), (3, .long b)]) hx hb dX12_comes_51 hl (by decide) rfl (fun ls hl => ?_)
      refine lv_lload hx hb dX12_comes_53 (lv_at hl 1 rfl) ?_
      refine lv_lneg hx hb dX12_comes_55 ?_
      refine lv_topl (fun j_10 ej_10 => ?_)
      have vj_10 : j_10.toInt = -j_4.toInt := by have h9 := x_negL ej_10 (by omega); omega
      refine lv_lstore (lv' := [(9, .long j_10), (7, .long j_9), (5, .long r_2), (0, .ref (ad 1)), (1, .long a), (3, .long b)]) hx hb dX12_comes_56 hl (by decide) rfl (fun ls hl => ?_)
      refine lv_lload hx hb dX12_comes_58 (lv_at hl 1 rfl) ?_
      refine x_calllN (va_runS (As := [.long j_9]) (rest := []) ⟨hx, hb, hml, hown, hts⟩ (q_size l D y H.size j_9 (by first | omega | decide)) (cwS 1 hts g_q_comes_1 rfl rfl rfl (by decide +kernel) ⟨Nat.le_of_ble_eq_true rfl, Nat.le_of_ble_eq_true rfl⟩) (x_preS hK (x_nilP D H) (x_nilD A)) rfl rfl hl.1 rfl (lv_room (Nat.le_of_ble_eq_true rfl)) dX12_comes_60 ⟨Nat.le_of_ble_eq_true rfl, Nat.le_of_ble_eq_true rfl⟩) hP hD hS hA (fun r_11 u H locs hw hP hD hS => ?_)
      try dsimp only at hw
      refine lv_ldc2 (v := 1000000000) hx hb hown (hts (.constantLong RX12 398 1000000000) (List.mem_of_getElem? (i := 4) rfl)) dX12_comes_63 ?_
      refine W.lcmp hx hb dX12_comes_66 ?_
      refine lv_if_gt (tgt := 79) hx hb dX12_comes_67 (by decide) (fun c_12 => ?_) (fun c_12 => ?_)
      · have kc_12 : r_11.toInt > 1000000000 := by have h9 := x_tri r_11 (1000000000 : Int64); (try simp only [Int64.reduceToInt] at h9); rcases h9 with ⟨g1, g2⟩ | ⟨g1, g2⟩ | ⟨g1, g2⟩ <;> first | omega | (exfalso; rw [g1] at c_12; revert c_12; decide)
        refine lv_aload_n hx hb dX12_comes_79 rfl (lv_at hl 3 rfl) ?_
        refine lv_iconst (v := 1) hx hb dX12_comes_80 (by decide) ?_
        refine va_put (D := D) (ci := 11) (v := .int 1) (ty := .boolean) (C := RX12) (T := TX12) (N := 85) hx hb hts inX12 tyX12 tyX12_ok nmX12 hown hK hP hD hS 0 mwd_o0 rfl 44 (by decide) fl384 (fun _ h9 => h9) rfl (by decide +kernel) rfl rfl (Nat.le_of_ble_eq_true rfl) dX12_comes_81 (fun H locs hP hD hS => ?_)
        have hP : va_P D vwCl (mwd y ad zw (sI σ 44 1)) H := x_trP hP mwd_p0_44
        have hD : va_D A (mwd y ad zw (sI σ 44 1)) := x_trD hD mwd_p0_44
        refine lv_lconst (v := 0) hx hb dX12_comes_84 (by decide) ?_
        refine lv_lstore (lv' := [(7, .long 0), (9, .long j_10), (5, .long r_2), (0, .ref (ad 1)), (1, .long a), (3, .long b)]) hx hb dX12_comes_85 hl (by decide) rfl (fun ls hl => ?_)
        refine lv_lconst (v := 1) hx hb dX12_comes_87 (by decide) ?_
        refine lv_lstore (lv' := [(9, .long 1), (7, .long 0), (5, .long r_2), (0, .ref (ad 1)), (1, .long a), (3, .long b)]) hx hb dX12_comes_88 hl (by decide) rfl (fun ls hl => ?_)
        refine lv_aload_n hx hb dX12_comes_90 rfl (lv_at hl 3 rfl) ?_
        refine lv_lload hx hb dX12_comes_91 (lv_at hl 1 rfl) ?_
        refine va_put (D := D) (ci := 11) (v := .long 0) (ty := .long) (C := RX12) (T := TX12) (N := 85) hx hb hts inX12 tyX12 tyX12_ok nmX12 hown hK hP hD hS 0 mwd_o0 rfl 42 (by decide) fl387 (fun _ h9 => h9) rfl (by decide +kernel) rfl rfl (Nat.le_of_ble_eq_true rfl) dX12_comes_93 (fun H locs hP hD hS => ?_)
        have hP : va_P D vwCl (mwd y ad zw (sJ (sI σ 44 1) 42 0)) H := x_trP hP mwd_p0_42
        have hD : va_D A (mwd y ad zw (sJ (sI σ 44 1) 42 0)) := x_trD hD mwd_p0_42
        refine lv_aload_n hx hb dX12_comes_96 rfl (lv_at hl 3 rfl) ?_
        refine lv_lload hx hb dX12_comes_97 (lv_at hl 0 rfl) ?_
        refine va_put (D := D) (ci := 11) (v := .long 1) (ty := .long) (C := RX12) (T := TX12) (N := 85) hx hb hts inX12 tyX12 tyX12_ok nmX12 hown hK hP hD hS 0 mwd_o0 rfl 43 (by decide) fl391 (fun _ h9 => h9) rfl (by decide +kernel) rfl rfl (Nat.le_of_ble_eq_true rfl) dX12_comes_99 (fun H locs hP hD hS => ?_)
        have hP : va_P D vwCl (mwd y ad zw (sJ (sJ (sI σ 44 1) 42 0) 43 1)) H := x_trP hP mwd_p0_43
        have hD : va_D A (mwd y ad zw (sJ (sJ (sI σ 44 1) 42 0) 43 1)) := x_trD hD mwd_p0_43
        exact x_vretW (u := (1, 0, 1)) hx hb hr hQ (by (try dsimp only); exact ⟨(by have h7_0 : (0 : Int64).toInt = 0 := rfl; have h7_1 : (1 : Int64).toInt = 1 := rfl; first | omega | (simp only [Int64.reduceToInt] at *; omega)), (by have h7_0 : (0 : Int64).toInt = 0 := rfl; have h7_1 : (1 : Int64).toInt = 1 := rfl; first | omega | (simp only [Int64.reduceToInt] at *; omega)), (by have h7_0 : (0 : Int64).toInt = 0 := rfl; have h7_1 : (1 : Int64).toInt = 1 := rfl; first | omega | (simp only [Int64.reduceToInt] at *; omega)), (by have h7_0 : (0 : Int64).toInt = 0 := rfl; have h7_1 : (1 : Int64).toInt = 1 := rfl; first | omega | (simp only [Int64.reduceToInt] at *; omega))⟩) hP hD hK hS dX12_comes_102 hlocks
      · have kc_12 : r_11.toInt ≤ 1000000000 := by have h9 := x_tri r_11 (1000000000 : Int64); (try simp only [Int64.reduceToInt] at h9); rcases h9 with ⟨g1, g2⟩ | ⟨g1, g2⟩ | ⟨g1, g2⟩ <;> first | omega | (exfalso; rw [g1] at c_12; revert c_12; decide)
        refine lv_lload hx hb dX12_comes_70 (lv_at hl 0 rfl) ?_
        refine lv_ldc2 (v := 1000000000) hx hb hown (hts (.constantLong RX12 398 1000000000) (List.mem_of_getElem? (i := 4) rfl)) dX12_comes_72 ?_
        refine W.lcmp hx hb dX12_comes_75 ?_
        refine lv_if_le (tgt := 90) hx hb dX12_comes_76 (by decide) (fun c_13 => ?_) (fun c_13 => ?_)
        · have kc_13 : j_10.toInt ≤ 1000000000 := by have h9 := x_tri j_10 (1000000000 : Int64); (try simp only [Int64.reduceToInt] at h9); rcases h9 with ⟨g1, g2⟩ | ⟨g1, g2⟩ | ⟨g1, g2⟩ <;> first | omega | (exfalso; rw [g1] at c_13; revert c_13; decide)
          refine lv_aload_n hx hb dX12_comes_90 rfl (lv_at hl 3 rfl) ?_
          refine lv_lload hx hb dX12_comes_91 (lv_at hl 1 rfl) ?_
          refine va_put (D := D) (ci := 11) (v := .long j_9) (ty := .long) (C := RX12) (T := TX12) (N := 85) hx hb hts inX12 tyX12 tyX12_ok nmX12 hown hK hP hD hS 0 mwd_o0 rfl 42 (by decide) fl387 (fun _ h9 => h9) rfl (by decide +kernel) rfl rfl (Nat.le_of_ble_eq_true rfl) dX12_comes_93 (fun H locs hP hD hS => ?_)
          have hP : va_P D vwCl (mwd y ad zw (sJ σ 42 j_9)) H := x_trP hP mwd_p0_42
          have hD : va_D A (mwd y ad zw (sJ σ 42 j_9)) := x_trD hD mwd_p0_42
          refine lv_aload_n hx hb dX12_comes_96 rfl (lv_at hl 3 rfl) ?_
          refine lv_lload hx hb dX12_comes_97 (lv_at hl 0 rfl) ?_
          refine va_put (D := D) (ci := 11) (v := .long j_10) (ty := .long) (C := RX12) (T := TX12) (N := 85) hx hb hts inX12 tyX12 tyX12_ok nmX12 hown hK hP hD hS 0 mwd_o0 rfl 43 (by decide) fl391 (fun _ h9 => h9) rfl (by decide +kernel) rfl rfl (Nat.le_of_ble_eq_true rfl) dX12_comes_99 (fun H locs hP hD hS => ?_)
          have hP : va_P D vwCl (mwd y ad zw (sJ (sJ σ 42 j_9) 43 j_10)) H := x_trP hP mwd_p0_43
          have hD : va_D A (mwd y ad zw (sJ (sJ σ 42 j_9) 43 j_10)) := x_trD hD mwd_p0_43
          have hP : va_P D vwCl (mwd y ad zw (sJ (sJ (sI σ 44 (σ.1 44)) 42 j_9) 43 j_10)) H := hP
          have hD : va_D A (mwd y ad zw (sJ (sJ (sI σ 44 (σ.1 44)) 42 j_9) 43 j_10)) := hD
          exact x_vretW (u := ((σ.1 44), j_9, j_10)) hx hb hr hQ (by (try dsimp only); exact ⟨(by have h7_0 : (0 : Int64).toInt = 0 := rfl; have h7_1 : (1 : Int64).toInt = 1 := rfl; first | omega | (simp only [Int64.reduceToInt] at *; omega)), (by have h7_0 : (0 : Int64).toInt = 0 := rfl; have h7_1 : (1 : Int64).toInt = 1 := rfl; first | omega | (simp only [Int64.reduceToInt] at *; omega)), (by have h7_0 : (0 : Int64).toInt = 0 := rfl; have h7_1 : (1 : Int64).toInt = 1 := rfl; first | omega | (simp only [Int64.reduceToInt] at *; omega)), (by have h7_0 : (0 : Int64).toInt = 0 := rfl; have h7_1 : (1 : Int64).toInt = 1 := rfl; first | omega | (simp only [Int64.reduceToInt] at *; omega))⟩) hP hD hK hS dX12_comes_102 hlocks
        · have kc_13 : j_10.toInt > 1000000000 := by have h9 := x_tri j_10 (1000000000 : Int64); (try simp only [Int64.reduceToInt] at h9); rcases h9 with ⟨g1, g2⟩ | ⟨g1, g2⟩ | ⟨g1, g2⟩ <;> first | omega | (exfalso; rw [g1] at c_13; revert c_13; decide)
          refine lv_aload_n hx hb dX12_comes_79 rfl (lv_at hl 3 rfl) ?_
          refine lv_iconst (v := 1) hx hb dX12_comes_80 (by decide) ?_
          refine va_put (D := D) (ci := 11) (v := .int 1) (ty := .boolean) (C := RX12) (T := TX12) (N := 85) hx hb hts inX12 tyX12 tyX12_ok nmX12 hown hK hP hD hS 0 mwd_o0 rfl 44 (by decide) fl384 (fun _ h9 => h9) rfl (by decide +kernel) rfl rfl (Nat.le_of_ble_eq_true rfl) dX12_comes_81 (fun H locs hP hD hS => ?_)
          have hP : va_P D vwCl (mwd y ad zw (sI σ 44 1)) H := x_trP hP mwd_p0_44
          have hD : va_D A (mwd y ad zw (sI σ 44 1)) := x_trD hD mwd_p0_44
          refine lv_lconst (v := 0) hx hb dX12_comes_84 (by decide) ?_
          refine lv_lstore (lv' := [(7, .long 0), (9, .long j_10), (5, .long r_2), (0, .ref (ad 1)), (1, .long a), (3, .long b)]) hx hb dX12_comes_85 hl (by decide) rfl (fun ls hl => ?_)
          refine lv_lconst (v := 1) hx hb dX12_comes_87 (by decide) ?_
          refine lv_lstore (lv' := [(9, .long 1), (7, .long 0), (5, .long r_2), (0, .ref (ad 1)), (1, .long a), (3, .long b)]) hx hb dX12_comes_88 hl (by decide) rfl (fun ls hl => ?_)
          refine lv_aload_n hx hb dX12_comes_90 rfl (lv_at hl 3 rfl) ?_
          refine lv_lload hx hb dX12_comes_91 (lv_at hl 1 rfl) ?_
          refine va_put (D := D) (ci := 11) (v := .long 0) (ty := .long) (C := RX12) (T := TX12) (N := 85) hx hb hts inX12 tyX12 tyX12_ok nmX12 hown hK hP hD hS 0 mwd_o0 rfl 42 (by decide) fl387 (fun _ h9 => h9) rfl (by decide +kernel) rfl rfl (Nat.le_of_ble_eq_true rfl) dX12_comes_93 (fun H locs hP hD hS => ?_)
          have hP : va_P D vwCl (mwd y ad zw (sJ (sI σ 44 1) 42 0)) H := x_trP hP mwd_p0_42
          have hD : va_D A (mwd y ad zw (sJ (sI σ 44 1) 42 0)) := x_trD hD mwd_p0_42
          refine lv_aload_n hx hb dX12_comes_96 rfl (lv_at hl 3 rfl) ?_
          refine lv_lload hx hb dX12_comes_97 (lv_at hl 0 rfl) ?_
          refine va_put (D := D) (ci := 11) (v := .long 1) (ty := .long) (C := RX12) (T := TX12) (N := 85) hx hb hts inX12 tyX12 tyX12_ok nmX12 hown hK hP hD hS 0 mwd_o0 rfl 43 (by decide) fl391 (fun _ h9 => h9) rfl (by decide +kernel) rfl rfl (Nat.le_of_ble_eq_true rfl) dX12_comes_99 (fun H locs hP hD hS => ?_)
          have hP : va_P D vwCl (mwd y ad zw (sJ (sJ (sI σ 44 1) 42 0) 43 1)) H := x_trP hP mwd_p0_43
          have hD : va_D A (mwd y ad zw (sJ (sJ (sI σ 44 1) 42 0) 43 1)) := x_trD hD mwd_p0_43
          exact x_vretW (u := (1, 0, 1)) hx hb hr hQ (by (try dsimp only); exact ⟨(by have h7_0 : (0 : Int64).toInt = 0 := rfl; have h7_1 : (1 : Int64).toInt = 1 := rfl; first | omega | (simp only [Int64.reduceToInt] at *; omega)), (by have h7_0 : (0 : Int64).toInt = 0 := rfl; have h7_1 : (1 : Int64).toInt = 1 := rfl; first | omega | (simp only [Int64.reduceToInt] at *; omega)), (by have h7_0 : (0 : Int64).toInt = 0 := rfl; have h7_1 : (1 : Int64).toInt = 1 := rfl; first | omega | (simp only [Int64.reduceToInt] at *; omega)), (by have h7_0 : (0 : Int64).toInt = 0 := rfl; have h7_1 : (1 : Int64).toInt = 1 := rfl; first | omega | (simp only [Int64.reduceToInt] at *; omega))⟩) hP hD hK hS dX12_comes_102 hlocks
  · have kc_1 : b.toInt = 0 := by have h9 := x_tri b (0 : Int64); (try simp only [Int64.reduceToInt] at h9); rcases h9 with ⟨g1, g2⟩ | ⟨g1, g2⟩ | ⟨g1, g2⟩ <;> first | omega | (exfalso; rw [g1] at c_1; revert c_1; decide)
    refine lv_aload_n hx hb dX12_comes_6 rfl (lv_at hl 0 rfl) ?_
    refine lv_iconst (v := 1) hx hb dX12_comes_7 (by decide) ?_
    refine va_put (D := D) (ci := 11) (v := .int 1) (ty := .boolean) (C := RX12) (T := TX12) (N := 85) hx hb hts inX12 tyX12 tyX12_ok nmX12 hown hK hP hD hS 0 mwd_o0 rfl 44 (by decide) fl384 (fun _ h9 => h9) rfl (by decide +kernel) rfl rfl (Nat.le_of_ble_eq_true rfl) dX12_comes_8 (fun H locs hP hD hS => ?_)
    have hP : va_P D vwCl (mwd y ad zw (sI σ 44 1)) H := x_trP hP mwd_p0_44
    have hD : va_D A (mwd y ad zw (sI σ 44 1)) := x_trD hD mwd_p0_44
    refine lv_aload_n hx hb dX12_comes_11 rfl (lv_at hl 0 rfl) ?_
    refine lv_lconst (v := 0) hx hb dX12_comes_12 (by decide) ?_
    refine va_put (D := D) (ci := 11) (v := .long 0) (ty := .long) (C := RX12) (T := TX12) (N := 85) hx hb hts inX12 tyX12 tyX12_ok nmX12 hown hK hP hD hS 0 mwd_o0 rfl 42 (by decide) fl387 (fun _ h9 => h9) rfl (by decide +kernel) rfl rfl (Nat.le_of_ble_eq_true rfl) dX12_comes_13 (fun H locs hP hD hS => ?_)
    have hP : va_P D vwCl (mwd y ad zw (sJ (sI σ 44 1) 42 0)) H := x_trP hP mwd_p0_42
    have hD : va_D A (mwd y ad zw (sJ (sI σ 44 1) 42 0)) := x_trD hD mwd_p0_42
    refine lv_aload_n hx hb dX12_comes_16 rfl (lv_at hl 0 rfl) ?_
    refine lv_lconst (v := 1) hx hb dX12_comes_17 (by decide) ?_
    refine va_put (D := D) (ci := 11) (v := .long 1) (ty := .long) (C := RX12) (T := TX12) (N := 85) hx hb hts inX12 tyX12 tyX12_ok nmX12 hown hK hP hD hS 0 mwd_o0 rfl 43 (by decide) fl391 (fun _ h9 => h9) rfl (by decide +kernel) rfl rfl (Nat.le_of_ble_eq_true rfl) dX12_comes_18 (fun H locs hP hD hS => ?_)
    have hP : va_P D vwCl (mwd y ad zw (sJ (sJ (sI σ 44 1) 42 0) 43 1)) H := x_trP hP mwd_p0_43
    have hD : va_D A (mwd y ad zw (sJ (sJ (sI σ 44 1) 42 0) 43 1)) := x_trD hD mwd_p0_43
    exact x_vretW (u := (1, 0, 1)) hx hb hr hQ (by (try dsimp only); exact ⟨(by have h7_0 : (0 : Int64).toInt = 0 := rfl; have h7_1 : (1 : Int64).toInt = 1 := rfl; first | omega | (simp only [Int64.reduceToInt] at *; omega)), (by have h7_0 : (0 : Int64).toInt = 0 := rfl; have h7_1 : (1 : Int64).toInt = 1 := rfl; first | omega | (simp only [Int64.reduceToInt] at *; omega)), (by have h7_0 : (0 : Int64).toInt = 0 := rfl; have h7_1 : (1 : Int64).toInt = 1 := rfl; first | omega | (simp only [Int64.reduceToInt] at *; omega)), (by have h7_0 : (0 : Int64).toInt = 0 := rfl; have h7_1 : (1 : Int64).toInt = 1 := rfl; first | omega | (simp only [Int64.reduceToInt] at *; omega))⟩) hP hD hK hS dX12_comes_21 hlocks

def v_q_adds : List Cond := .code yX12_adds cX12_adds 9 none :: ([] ++ (wsV RX12 400 RX12 yX12_comes v_q_comes))
theorem g_q_adds_0 : GoodIn v_q_adds (wsV RX12 400 RX12 yX12_comes v_q_comes) := goodIn_sub (fun w h => List.mem_cons_of_mem _ (List.mem_append_right _ h)) (by decide +kernel)
set_option maxHeartbeats 4000000 in
set_option maxRecDepth 100000 in
theorem q_adds (l : Launch) (D : va_G) (y : Nat → ClassId) (sz : Nat) (ad : Nat → Nat) (zw : Nat → Nat → Int32) (σ : OS) (a b g d : Int64) (ha0 : -1000000000 ≤ a.toInt) (ha1 : a.toInt ≤ 1000000000) (hb0 : 0 ≤ b.toInt) (hb1 : b.toInt ≤ 1000000000) (hg0 : -1000000000 ≤ g.toInt) (hg1 : g.toInt ≤ 1000000000) (hd0 : 0 ≤ d.toInt) (hd1 : d.toInt ≤ 1000000000) : Met l yX12_adds v_q_adds ({ frames := 3, cells := 0, slots := 0, locals := 80 } : Room) (va_Pc [.ref (ad 1), .long a, .long b, .long g, .long d] (xPre D (xT y) (mwd y ad zw σ) sz)) (va_Qv (fun (u : Int32 × Int64 × Int64) => -1000000000 ≤ u.2.1.toInt ∧ u.2.1.toInt ≤ 1000000000 ∧ 0 ≤ u.2.2.toInt ∧ u.2.2.toInt ≤ 1000000000) (fun (u : Int32 × Int64 × Int64) => xB D (xT y) (va_A (mwd y ad zw σ) sz) (mwd y ad zw (sJ (sJ (sI σ 44 u.1) 42 u.2.1) 43 u.2.2))) (va_A (mwd y ad zw σ) sz)) 0 0 (va_A (mwd y ad zw σ) sz) := by
  refine x_metv (cc := cX12_adds) (maxL := 9) (by decide) rfl (Nat.le_of_ble_eq_true rfl) ?_
  intro p e s m below meth c A H locs Q hx hb hml hown hts hr hlocks hmn hA hP hK hD hS ls hl hQ
  have hl : lv_has ls 9 [(0, .ref (ad 1)), (1, .long a), (3, .long b), (5, .long g), (7, .long d)] := hl
  refine lv_aload_n hx hb dX12_adds_0 rfl (lv_at hl 0 rfl) ?_
  refine lv_lload_n hx hb dX12_adds_1 rfl (lv_at hl 1 rfl) ?_
  refine lv_lload hx hb dX12_adds_2 (lv_at hl 4 rfl) ?_
  refine lv_lmul hx hb dX12_adds_4 ?_
  refine lv_topl (fun j_1 ej_1 => ?_)
  have vj_1 := x_mulB ej_1 (by omega) (by omega) (by omega) (by omega)
  refine lv_lload hx hb dX12_adds_5 (lv_at hl 3 rfl) ?_
  refine lv_lload_n hx hb dX12_adds_7 rfl (lv_at hl 2 rfl) ?_
  refine lv_lmul hx hb dX12_adds_8 ?_
  refine lv_topl (fun j_2 ej_2 => ?_)
  have vj_2 := x_mulB ej_2 (by omega) (by omega) (by omega) (by omega)
  refine lv_ladd hx hb dX12_adds_9 ?_
  refine lv_topl (fun j_3 ej_3 => ?_)
  have vj_3 : j_3.toInt = j_1.toInt + j_2.toInt := by have h9 := x_addL ej_3 (by omega) (by omega); omega
  refine lv_lload_n hx hb dX12_adds_10 rfl (lv_at hl 2 rfl) ?_
  refine lv_lload hx hb dX12_adds_11 (lv_at hl 4 rfl) ?_
  refine lv_lmul hx hb dX12_adds_13 ?_
  refine lv_topl (fun j_4 ej_4 => ?_)
  have vj_4 := x_mulB ej_4 (by omega) (by omega) (by omega) (by omega)
  refine x_callvW (va_runV (As := [.long j_3, .long j_4]) (rest := []) ⟨hx, hb, hml, hown, hts⟩ (q_comes l D y H.size ad zw σ j_3 j_4 (by first | omega | decide) (by first | omega | decide) (by first | omega | decide) (by first | omega | decide)) (cwV 2 hts g_q_adds_0 rfl rfl rfl (by decide +kernel) ⟨Nat.le_of_ble_eq_true rfl, Nat.le_of_ble_eq_true rfl⟩) (x_preV (q := (RX12, TX12, 85)) hK hP hD (ci := 11) (q0 := 0) rfl mwd_o0) rfl rfl hl.1 rfl (lv_room (Nat.le_of_ble_eq_true rfl)) dX12_adds_14 ⟨Nat.le_of_ble_eq_true rfl, Nat.le_of_ble_eq_true rfl⟩) hP hD hS hA (fun u H locs hw hP hD hS => ?_)
  obtain ⟨n_5, j_6, j_7⟩ := u
  try dsimp only at hw
  have hP : va_P D vwCl (mwd y ad zw (sJ (sJ (sI σ 44 n_5) 42 j_6) 43 j_7)) H := hP
  have hD : va_D A (mwd y ad zw (sJ (sJ (sI σ 44 n_5) 42 j_6) 43 j_7)) := hD
  have hw : -1000000000 ≤ j_6.toInt ∧ j_6.toInt ≤ 1000000000 ∧ 0 ≤ j_7.toInt ∧ j_7.toInt ≤ 1000000000 := hw
  exact x_vretW (u := (n_5, j_6, j_7)) hx hb hr hQ (by (try dsimp only); exact hw) hP hD hK hS dX12_adds_17 hlocks

def v_q_takesOff : List Cond := .code yX12_takesOff cX12_takesOff 9 none :: ([] ++ (wsV RX12 400 RX12 yX12_comes v_q_comes))
theorem g_q_takesOff_0 : GoodIn v_q_takesOff (wsV RX12 400 RX12 yX12_comes v_q_comes) := goodIn_sub (fun w h => List.mem_cons_of_mem _ (List.mem_append_right _ h)) (by decide +kernel)
set_option maxHeartbeats 4000000 in
set_option maxRecDepth 100000 in
theorem q_takesOff (l : Launch) (D : va_G) (y : Nat → ClassId) (sz : Nat) (ad : Nat → Nat) (zw : Nat → Nat → Int32) (σ : OS) (a b g d : Int64) (ha0 : -1000000000 ≤ a.toInt) (ha1 : a.toInt ≤ 1000000000) (hb0 : 0 ≤ b.toInt) (hb1 : b.toInt ≤ 1000000000) (hg0 : -1000000000 ≤ g.toInt) (hg1 : g.toInt ≤ 1000000000) (hd0 : 0 ≤ d.toInt) (hd1 : d.toInt ≤ 1000000000) : Met l yX12_takesOff v_q_takesOff ({ frames := 3, cells := 0, slots := 0, locals := 80 } : Room) (va_Pc [.ref (ad 1), .long a, .long b, .long g, .long d] (xPre D (xT y) (mwd y ad zw σ) sz)) (va_Qv (fun (u : Int32 × Int64 × Int64) => -1000000000 ≤ u.2.1.toInt ∧ u.2.1.toInt ≤ 1000000000 ∧ 0 ≤ u.2.2.toInt ∧ u.2.2.toInt ≤ 1000000000) (fun (u : Int32 × Int64 × Int64) => xB D (xT y) (va_A (mwd y ad zw σ) sz) (mwd y ad zw (sJ (sJ (sI σ 44 u.1) 42 u.2.1) 43 u.2.2))) (va_A (mwd y ad zw σ) sz)) 0 0 (va_A (mwd y ad zw σ) sz) := by
  refine x_metv (cc := cX12_takesOff) (maxL := 9) (by decide) rfl (Nat.le_of_ble_eq_true rfl) ?_
  intro p e s m below meth c A H locs Q hx hb hml hown hts hr hlocks hmn hA hP hK hD hS ls hl hQ
  have hl : lv_has ls 9 [(0, .ref (ad 1)), (1, .long a), (3, .long b), (5, .long g), (7, .long d)] := hl
  refine lv_aload_n hx hb dX12_takesOff_0 rfl (lv_at hl 0 rfl) ?_
  refine lv_lload_n hx hb dX12_takesOff_1 rfl (lv_at hl 1 rfl) ?_
  refine lv_lload hx hb dX12_takesOff_2 (lv_at hl 4 rfl) ?_
  refine lv_lmul hx hb dX12_takesOff_4 ?_
  refine lv_topl (fun j_1 ej_1 => ?_)
  have vj_1 := x_mulB ej_1 (by omega) (by omega) (by omega) (by omega)
  refine lv_lload hx hb dX12_takesOff_5 (lv_at hl 3 rfl) ?_
  refine lv_lload_n hx hb dX12_takesOff_7 rfl (lv_at hl 2 rfl) ?_
  refine lv_lmul hx hb dX12_takesOff_8 ?_
  refine lv_topl (fun j_2 ej_2 => ?_)
  have vj_2 := x_mulB ej_2 (by omega) (by omega) (by omega) (by omega)
  refine lv_lsub hx hb dX12_takesOff_9 ?_
  refine lv_topl (fun j_3 ej_3 => ?_)
  have vj_3 : j_3.toInt = j_1.toInt - j_2.toInt := by have h9 := x_subL ej_3 (by omega) (by omega); omega
  refine lv_lload_n hx hb dX12_takesOff_10 rfl (lv_at hl 2 rfl) ?_
  refine lv_lload hx hb dX12_takesOff_11 (lv_at hl 4 rfl) ?_
  refine lv_lmul hx hb dX12_takesOff_13 ?_
  refine lv_topl (fun j_4 ej_4 => ?_)
  have vj_4 := x_mulB ej_4 (by omega) (by omega) (by omega) (by omega)
  refine x_callvW (va_runV (As := [.long j_3, .long j_4]) (rest := []) ⟨hx, hb, hml, hown, hts⟩ (q_comes l D y H.size ad zw σ j_3 j_4 (by first | omega | decide) (by first | omega | decide) (by first | omega | decide) (by first | omega | decide)) (cwV 2 hts g_q_takesOff_0 rfl rfl rfl (by decide +kernel) ⟨Nat.le_of_ble_eq_true rfl, Nat.le_of_ble_eq_true rfl⟩) (x_preV (q := (RX12, TX12, 85)) hK hP hD (ci := 11) (q0 := 0) rfl mwd_o0) rfl rfl hl.1 rfl (lv_room (Nat.le_of_ble_eq_true rfl)) dX12_takesOff_14 ⟨Nat.le_of_ble_eq_true rfl, Nat.le_of_ble_eq_true rfl⟩) hP hD hS hA (fun u H locs hw hP hD hS => ?_)
  obtain ⟨n_5, j_6, j_7⟩ := u
  try dsimp only at hw
  have hP : va_P D vwCl (mwd y ad zw (sJ (sJ (sI σ 44 n_5) 42 j_6) 43 j_7)) H := hP
  have hD : va_D A (mwd y ad zw (sJ (sJ (sI σ 44 n_5) 42 j_6) 43 j_7)) := hD
  have hw : -1000000000 ≤ j_6.toInt ∧ j_6.toInt ≤ 1000000000 ∧ 0 ≤ j_7.toInt ∧ j_7.toInt ≤ 1000000000 := hw
  exact x_vretW (u := (n_5, j_6, j_7)) hx hb hr hQ (by (try dsimp only); exact hw) hP hD hK hS dX12_takesOff_17 hlocks

def v_q_multiplies : List Cond := .code yX12_multiplies cX12_multiplies 9 none :: ([] ++ (wsV RX12 400 RX12 yX12_comes v_q_comes))
theorem g_q_multiplies_0 : GoodIn v_q_multiplies (wsV RX12 400 RX12 yX12_comes v_q_comes) := goodIn_sub (fun w h => List.mem_cons_of_mem _ (List.mem_append_right _ h)) (by decide +kernel)
set_option maxHeartbeats 4000000 in
set_option maxRecDepth 100000 in
theorem q_multiplies (l : Launch) (D : va_G) (y : Nat → ClassId) (sz : Nat) (ad : Nat → Nat) (zw : Nat → Nat → Int32) (σ : OS) (a b g d : Int64) (ha0 : -1000000000 ≤ a.toInt) (ha1 : a.toInt ≤ 1000000000) (hb0 : 0 ≤ b.toInt) (hb1 : b.toInt ≤ 1000000000) (hg0 : -1000000000 ≤ g.toInt) (hg1 : g.toInt ≤ 1000000000) (hd0 : 0 ≤ d.toInt) (hd1 : d.toInt ≤ 1000000000) : Met l yX12_multiplies v_q_multiplies ({ frames := 3, cells := 0, slots := 0, locals := 80 } : Room) (va_Pc [.ref (ad 1), .long a, .long b, .long g, .long d] (xPre D (xT y) (mwd y ad zw σ) sz)) (va_Qv (fun (u : Int32 × Int64 × Int64) => -1000000000 ≤ u.2.1.toInt ∧ u.2.1.toInt ≤ 1000000000 ∧ 0 ≤ u.2.2.toInt ∧ u.2.2.toInt ≤ 1000000000) (fun (u : Int32 × Int64 × Int64) => xB D (xT y) (va_A (mwd y ad zw σ) sz) (mwd y ad zw (sJ (sJ (sI σ 44 u.1) 42 u.2.1) 43 u.2.2))) (va_A (mwd y ad zw σ) sz)) 0 0 (va_A (mwd y ad zw σ) sz) := by
  refine x_metv (cc := cX12_multiplies) (maxL := 9) (by decide) rfl (Nat.le_of_ble_eq_true rfl) ?_
  intro p e s m below meth c A H locs Q hx hb hml hown hts hr hlocks hmn hA hP hK hD hS ls hl hQ
  have hl : lv_has ls 9 [(0, .ref (ad 1)), (1, .long a), (3, .long b), (5, .long g), (7, .long d)] := hl
  refine lv_aload_n hx hb dX12_multiplies_0 rfl (lv_at hl 0 rfl) ?_
  refine lv_lload_n hx hb dX12_multiplies_1 rfl (lv_at hl 1 rfl) ?_
  refine lv_lload hx hb dX12_multiplies_2 (lv_at hl 3 rfl) ?_
  refine lv_lmul hx hb dX12_multiplies_4 ?_
  refine lv_topl (fun j_1 ej_1 => ?_)
  have vj_1 := x_mulB ej_1 (by omega) (by omega) (by omega) (by omega)
  refine lv_lload_n hx hb dX12_multiplies_5 rfl (lv_at hl 2 rfl) ?_
  refine lv_lload hx hb dX12_multiplies_6 (lv_at hl 4 rfl) ?_
  refine lv_lmul hx hb dX12_multiplies_8 ?_
  refine lv_topl (fun j_2 ej_2 => ?_)
  have vj_2 := x_mulB ej_2 (by omega) (by omega) (by omega) (by omega)
  refine x_callvW (va_runV (As := [.long j_1, .long j_2]) (rest := []) ⟨hx, hb, hml, hown, hts⟩ (q_comes l D y H.size ad zw σ j_1 j_2 (by first | omega | decide) (by first | omega | decide) (by first | omega | decide) (by first | omega | decide)) (cwV 2 hts g_q_multiplies_0 rfl rfl rfl (by decide +kernel) ⟨Nat.le_of_ble_eq_true rfl, Nat.le_of_ble_eq_true rfl⟩) (x_preV (q := (RX12, TX12, 85)) hK hP hD (ci := 11) (q0 := 0) rfl mwd_o0) rfl rfl hl.1 rfl (lv_room (Nat.le_of_ble_eq_true rfl)) dX12_multiplies_9 ⟨Nat.le_of_ble_eq_true rfl, Nat.le_of_ble_eq_true rfl⟩) hP hD hS hA (fun u H locs hw hP hD hS => ?_)
  obtain ⟨n_3, j_4, j_5⟩ := u
  try dsimp only at hw
  have hP : va_P D vwCl (mwd y ad zw (sJ (sJ (sI σ 44 n_3) 42 j_4) 43 j_5)) H := hP
  have hD : va_D A (mwd y ad zw (sJ (sJ (sI σ 44 n_3) 42 j_4) 43 j_5)) := hD
  have hw : -1000000000 ≤ j_4.toInt ∧ j_4.toInt ≤ 1000000000 ∧ 0 ≤ j_5.toInt ∧ j_5.toInt ≤ 1000000000 := hw
  exact x_vretW (u := (n_3, j_4, j_5)) hx hb hr hQ (by (try dsimp only); exact hw) hP hD hK hS dX12_multiplies_12 hlocks

def v_q_divides : List Cond := .code yX12_divides cX12_divides 9 none :: ([] ++ (wsV RX12 400 RX12 yX12_comes v_q_comes))
theorem g_q_divides_0 : GoodIn v_q_divides (wsV RX12 400 RX12 yX12_comes v_q_comes) := goodIn_sub (fun w h => List.mem_cons_of_mem _ (List.mem_append_right _ h)) (by decide +kernel)
set_option maxHeartbeats 4000000 in
set_option maxRecDepth 100000 in
theorem q_divides (l : Launch) (D : va_G) (y : Nat → ClassId) (sz : Nat) (ad : Nat → Nat) (zw : Nat → Nat → Int32) (σ : OS) (a b g d : Int64) (ha0 : -1000000000 ≤ a.toInt) (ha1 : a.toInt ≤ 1000000000) (hb0 : 0 ≤ b.toInt) (hb1 : b.toInt ≤ 1000000000) (hg0 : -1000000000 ≤ g.toInt) (hg1 : g.toInt ≤ 1000000000) (hd0 : 0 ≤ d.toInt) (hd1 : d.toInt ≤ 1000000000) : Met l yX12_divides v_q_divides ({ frames := 3, cells := 0, slots := 0, locals := 80 } : Room) (va_Pc [.ref (ad 1), .long a, .long b, .long g, .long d] (xPre D (xT y) (mwd y ad zw σ) sz)) (va_Qv (fun (u : Int32 × Int64 × Int64) => -1000000000 ≤ u.2.1.toInt ∧ u.2.1.toInt ≤ 1000000000 ∧ 0 ≤ u.2.2.toInt ∧ u.2.2.toInt ≤ 1000000000) (fun (u : Int32 × Int64 × Int64) => xB D (xT y) (va_A (mwd y ad zw σ) sz) (mwd y ad zw (sJ (sJ (sI σ 44 u.1) 42 u.2.1) 43 u.2.2))) (va_A (mwd y ad zw σ) sz)) 0 0 (va_A (mwd y ad zw σ) sz) := by
  refine x_metv (cc := cX12_divides) (maxL := 9) (by decide) rfl (Nat.le_of_ble_eq_true rfl) ?_
  intro p e s m below meth c A H locs Q hx hb hml hown hts hr hlocks hmn hA hP hK hD hS ls hl hQ
  have hl : lv_has ls 9 [(0, .ref (ad 1)), (1, .long a), (3, .long b), (5, .long g), (7, .long d)] := hl
  refine lv_aload_n hx hb dX12_divides_0 rfl (lv_at hl 0 rfl) ?_
  refine lv_lload_n hx hb dX12_divides_1 rfl (lv_at hl 1 rfl) ?_
  refine lv_lload hx hb dX12_divides_2 (lv_at hl 4 rfl) ?_
  refine lv_lmul hx hb dX12_divides_4 ?_
  refine lv_topl (fun j_1 ej_1 => ?_)
  have vj_1 := x_mulB ej_1 (by omega) (by omega) (by omega) (by omega)
  refine lv_lload_n hx hb dX12_divides_5 rfl (lv_at hl 2 rfl) ?_
  refine lv_lload hx hb dX12_divides_6 (lv_at hl 3 rfl) ?_
  refine lv_lmul hx hb dX12_divides_8 ?_
  refine lv_topl (fun j_2 ej_2 => ?_)
  have vj_2 := x_mulB ej_2 (by omega) (by omega) (by omega) (by omega)
  refine x_callvW (va_runV (As := [.long j_1, .long j_2]) (rest := []) ⟨hx, hb, hml, hown, hts⟩ (q_comes l D y H.size ad zw σ j_1 j_2 (by first | omega | decide) (by first | omega | decide) (by first | omega | decide) (by first | omega | decide)) (cwV 2 hts g_q_divides_0 rfl rfl rfl (by decide +kernel) ⟨Nat.le_of_ble_eq_true rfl, Nat.le_of_ble_eq_true rfl⟩) (x_preV (q := (RX12, TX12, 85)) hK hP hD (ci := 11) (q0 := 0) rfl mwd_o0) rfl rfl hl.1 rfl (lv_room (Nat.le_of_ble_eq_true rfl)) dX12_divides_9 ⟨Nat.le_of_ble_eq_true rfl, Nat.le_of_ble_eq_true rfl⟩) hP hD hS hA (fun u H locs hw hP hD hS => ?_)
  obtain ⟨n_3, j_4, j_5⟩ := u
  try dsimp only at hw
  have hP : va_P D vwCl (mwd y ad zw (sJ (sJ (sI σ 44 n_3) 42 j_4) 43 j_5)) H := hP
  have hD : va_D A (mwd y ad zw (sJ (sJ (sI σ 44 n_3) 42 j_4) 43 j_5)) := hD
  have hw : -1000000000 ≤ j_4.toInt ∧ j_4.toInt ≤ 1000000000 ∧ 0 ≤ j_5.toInt ∧ j_5.toInt ≤ 1000000000 := hw
  exact x_vretW (u := (n_3, j_4, j_5)) hx hb hr hQ (by (try dsimp only); exact hw) hP hD hK hS dX12_divides_12 hlocks

def v_q_lets0 : List Cond := .code yX12_lets cX12_lets 7 none :: ([.fieldLink RX12 167 "SlopeRunnerModel" "slopeUp" "[J", .fieldLink RX12 170 "SlopeRunnerModel" "slopeDown" "[J"] ++ wsX120)
set_option maxHeartbeats 4000000 in
set_option maxRecDepth 100000 in
theorem q_lets0 (l : Launch) (D : va_G) (y : Nat → ClassId) (sz : Nat) (ad : Nat → Nat) (zw : Nat → Nat → Int32) (σ : OS) (k : Int32) (a b : Int64) (hk0 : 0 ≤ k.toInt) (hk1 : k.toInt < 1760) (ha0 : -1000000000 ≤ a.toInt) (ha1 : a.toInt ≤ 1000000000) (hb0 : 0 ≤ b.toInt) (hb1 : b.toInt ≤ 1000000000) (hB75 : bJ (σ.2.2.2 75) (-1000000000) 1000000000) (hB76 : bJ (σ.2.2.2 76) 0 1000000000) : Met l yX12_lets v_q_lets0 ({ frames := 0, cells := 0, slots := 0, locals := 0 } : Room) (va_Pc [.ref (ad 1), .int 0, .int k, .long a, .long b] (xPre D (xT y) (mwd y ad zw σ) sz)) (va_Qv (fun (u : (Nat → Int64) × (Nat → Int64)) => (True) ∧ bJ u.1 (-1000000000) 1000000000 ∧ bJ u.2 0 1000000000) (fun (u : (Nat → Int64) × (Nat → Int64)) => xB D (xT y) (va_A (mwd y ad zw σ) sz) (mwd y ad zw (tJ (tJ σ 75 u.1) 76 u.2))) (va_A (mwd y ad zw σ) sz)) 0 0 (va_A (mwd y ad zw σ) sz) := by
  refine x_metv (cc := cX12_lets) (maxL := 7) (by decide) rfl (Nat.le_of_ble_eq_true rfl) ?_
  intro p e s m below meth c A H locs Q hx hb hml hown hts hr hlocks hmn hA hP hK hD hS ls hl hQ
  have hl : lv_has ls 7 [(0, .ref (ad 1)), (1, .int 0), (2, .int k), (3, .long a), (5, .long b)] := hl
  have fl167 := hts (.fieldLink RX12 167 "SlopeRunnerModel" "slopeUp" "[J") (List.mem_of_getElem? (i := 1) rfl)
  have inX12 : ∀ w ∈ wsX120, w ∈ v_q_lets0 := (fun w h => List.mem_cons_of_mem _ (List.mem_append_right _ h))
  have kk_0 : (0 : Int32).toInt = 0 := rfl
  have fl170 := hts (.fieldLink RX12 170 "SlopeRunnerModel" "slopeDown" "[J") (List.mem_of_getElem? (i := 2) rfl)
  refine lv_aload_n hx hb dX12_lets_0 rfl (lv_at hl 0 rfl) ?_
  refine va_get (D := D) (ci := 11) (v := .ref (ad 75)) (C := RX12) (T := TX12) (N := 85) hx hb hts inX12 hown hK hP 0 mwd_o0 rfl 75 (by decide) fl167 (fun _ h9 => h9) rfl dX12_lets_1 ?_
  refine lv_sipush (v := 1760) hx hb dX12_lets_4 (by decide) ?_
  refine lv_iload_n hx hb dX12_lets_7 rfl (lv_at hl 1 rfl) ?_
  refine lv_imul hx hb dX12_lets_8 ?_
  refine lv_topi (fun i_1 ei_1 => ?_)
  obtain rfl : i_1 = 0 := ei_1.trans (by decide)
  refine lv_iload_n hx hb dX12_lets_9 rfl (lv_at hl 2 rfl) ?_
  refine lv_iadd hx hb dX12_lets_10 ?_
  refine lv_topi (fun i_2 ei_2 => ?_)
  have vi_2 : i_2.toInt = 0 + k.toInt := by have h9 := x_add ei_2 (by omega) (by omega); omega
  refine lv_lload_n hx hb dX12_lets_11 rfl (lv_at hl 3 rfl) ?_
  refine va_last hx hb hK hP hD hS 51 3 mwd_a51 rfl (x_in (by omega) (by omega)) dX12_lets_12 (fun H locs hP hD hS => ?_)
  obtain ⟨f_3, ef_3⟩ : ∃ z9 : Nat → Int64, z9 = (vp_updL (σ.2.2.2 75) (Int32.toNatClampNeg i_2) a) := ⟨_, rfl⟩
  have hP : va_P D vwCl (mwd y ad zw (tJ σ 75 f_3)) H := by rw [ef_3]; exact x_trP hP mwd_s51
  have hD : va_D A (mwd y ad zw (tJ σ 75 f_3)) := by rw [ef_3]; exact x_trD hD mwd_s51
  have hvf_3 : bJ f_3 (-1000000000) 1000000000 := by rw [ef_3]; exact b_updJ hB75 (by omega) (by omega)
  refine lv_aload_n hx hb dX12_lets_13 rfl (lv_at hl 0 rfl) ?_
  refine va_get (D := D) (ci := 11) (v := .ref (ad 76)) (C := RX12) (T := TX12) (N := 85) hx hb hts inX12 hown hK hP 0 mwd_o0 rfl 76 (by decide) fl170 (fun _ h9 => h9) rfl dX12_lets_14 ?_
  refine lv_sipush (v := 1760) hx hb dX12_lets_17 (by decide) ?_
  refine lv_iload_n hx hb dX12_lets_20 rfl (lv_at hl 1 rfl) ?_
  refine lv_imul hx hb dX12_lets_21 ?_
  refine lv_topi (fun i_4 ei_4 => ?_)
  obtain rfl : i_4 = 0 := ei_4.trans (by decide)
  refine lv_iload_n hx hb dX12_lets_22 rfl (lv_at hl 2 rfl) ?_
  refine lv_iadd hx hb dX12_lets_23 ?_
  refine lv_topi (fun i_5 ei_5 => ?_)
  have vi_5 : i_5.toInt = 0 + k.toInt := by have h9 := x_add ei_5 (by omega) (by omega); omega
  refine lv_lload hx hb dX12_lets_24 (lv_at hl 4 rfl) ?_
  refine va_last hx hb hK hP hD hS 52 3 mwd_a52 rfl (x_in (by omega) (by omega)) dX12_lets_26 (fun H locs hP hD hS => ?_)
  obtain ⟨f_6, ef_6⟩ : ∃ z9 : Nat → Int64, z9 = (vp_updL (σ.2.2.2 76) (Int32.toNatClampNeg i_5) b) := ⟨_, rfl⟩
  have hP : va_P D vwCl (mwd y ad zw (tJ (tJ σ 75 f_3) 76 f_6)) H := by rw [ef_6]; exact x_trP hP mwd_s52
  have hD : va_D A (mwd y ad zw (tJ (tJ σ 75 f_3) 76 f_6)) := by rw [ef_6]; exact x_trD hD mwd_s52
  have hvf_6 : bJ f_6 0 1000000000 := by rw [ef_6]; exact b_updJ hB76 (by omega) (by omega)
  exact x_vretW (u := (f_3, f_6)) hx hb hr hQ (by (try dsimp only); exact ⟨trivial, hvf_3, hvf_6⟩) hP hD hK hS dX12_lets_27 hlocks

def v_q_lets1 : List Cond := .code yX12_lets cX12_lets 7 none :: ([.fieldLink RX12 167 "SlopeRunnerModel" "slopeUp" "[J", .fieldLink RX12 170 "SlopeRunnerModel" "slopeDown" "[J"] ++ wsX120)
set_option maxHeartbeats 4000000 in
set_option maxRecDepth 100000 in
theorem q_lets1 (l : Launch) (D : va_G) (y : Nat → ClassId) (sz : Nat) (ad : Nat → Nat) (zw : Nat → Nat → Int32) (σ : OS) (k : Int32) (a b : Int64) (hk0 : 0 ≤ k.toInt) (hk1 : k.toInt < 1760) (ha0 : -1000000000 ≤ a.toInt) (ha1 : a.toInt ≤ 1000000000) (hb0 : 0 ≤ b.toInt) (hb1 : b.toInt ≤ 1000000000) (hB75 : bJ (σ.2.2.2 75) (-1000000000) 1000000000) (hB76 : bJ (σ.2.2.2 76) 0 1000000000) : Met l yX12_lets v_q_lets1 ({ frames := 0, cells := 0, slots := 0, locals := 0 } : Room) (va_Pc [.ref (ad 1), .int 1, .int k, .long a, .long b] (xPre D (xT y) (mwd y ad zw σ) sz)) (va_Qv (fun (u : (Nat → Int64) × (Nat → Int64)) => (True) ∧ bJ u.1 (-1000000000) 1000000000 ∧ bJ u.2 0 1000000000) (fun (u : (Nat → Int64) × (Nat → Int64)) => xB D (xT y) (va_A (mwd y ad zw σ) sz) (mwd y ad zw (tJ (tJ σ 75 u.1) 76 u.2))) (va_A (mwd y ad zw σ) sz)) 0 0 (va_A (mwd y ad zw σ) sz) := by
  refine x_metv (cc := cX12_lets) (maxL := 7) (by decide) rfl (Nat.le_of_ble_eq_true rfl) ?_
  intro p e s m below meth c A H locs Q hx hb hml hown hts hr hlocks hmn hA hP hK hD hS ls hl hQ
  have hl : lv_has ls 7 [(0, .ref (ad 1)), (1, .int 1), (2, .int k), (3, .long a), (5, .long b)] := hl
  have fl167 := hts (.fieldLink RX12 167 "SlopeRunnerModel" "slopeUp" "[J") (List.mem_of_getElem? (i := 1) rfl)
  have inX12 : ∀ w ∈ wsX120, w ∈ v_q_lets1 := (fun w h => List.mem_cons_of_mem _ (List.mem_append_right _ h))
  have kk_1760 : (1760 : Int32).toInt = 1760 := rfl
  have fl170 := hts (.fieldLink RX12 170 "SlopeRunnerModel" "slopeDown" "[J") (List.mem_of_getElem? (i := 2) rfl)
  refine lv_aload_n hx hb dX12_lets_0 rfl (lv_at hl 0 rfl) ?_
  refine va_get (D := D) (ci := 11) (v := .ref (ad 75)) (C := RX12) (T := TX12) (N := 85) hx hb hts inX12 hown hK hP 0 mwd_o0 rfl 75 (by decide) fl167 (fun _ h9 => h9) rfl dX12_lets_1 ?_
  refine lv_sipush (v := 1760) hx hb dX12_lets_4 (by decide) ?_
  refine lv_iload_n hx hb dX12_lets_7 rfl (lv_at hl 1 rfl) ?_
  refine lv_imul hx hb dX12_lets_8 ?_
  refine lv_topi (fun i_1 ei_1 => ?_)
  obtain rfl : i_1 = 1760 := ei_1.trans (by decide)
  refine lv_iload_n hx hb dX12_lets_9 rfl (lv_at hl 2 rfl) ?_
  refine lv_iadd hx hb dX12_lets_10 ?_
  refine lv_topi (fun i_2 ei_2 => ?_)
  have vi_2 : i_2.toInt = 1760 + k.toInt := by have h9 := x_add ei_2 (by omega) (by omega); omega
  refine lv_lload_n hx hb dX12_lets_11 rfl (lv_at hl 3 rfl) ?_
  refine va_last hx hb hK hP hD hS 51 3 mwd_a51 rfl (x_in (by omega) (by omega)) dX12_lets_12 (fun H locs hP hD hS => ?_)
  obtain ⟨f_3, ef_3⟩ : ∃ z9 : Nat → Int64, z9 = (vp_updL (σ.2.2.2 75) (Int32.toNatClampNeg i_2) a) := ⟨_, rfl⟩
  have hP : va_P D vwCl (mwd y ad zw (tJ σ 75 f_3)) H := by rw [ef_3]; exact x_trP hP mwd_s51
  have hD : va_D A (mwd y ad zw (tJ σ 75 f_3)) := by rw [ef_3]; exact x_trD hD mwd_s51
  have hvf_3 : bJ f_3 (-1000000000) 1000000000 := by rw [ef_3]; exact b_updJ hB75 (by omega) (by omega)
  refine lv_aload_n hx hb dX12_lets_13 rfl (lv_at hl 0 rfl) ?_
  refine va_get (D := D) (ci := 11) (v := .ref (ad 76)) (C := RX12) (T := TX12) (N := 85) hx hb hts inX12 hown hK hP 0 mwd_o0 rfl 76 (by decide) fl170 (fun _ h9 => h9) rfl dX12_lets_14 ?_
  refine lv_sipush (v := 1760) hx hb dX12_lets_17 (by decide) ?_
  refine lv_iload_n hx hb dX12_lets_20 rfl (lv_at hl 1 rfl) ?_
  refine lv_imul hx hb dX12_lets_21 ?_
  refine lv_topi (fun i_4 ei_4 => ?_)
  obtain rfl : i_4 = 1760 := ei_4.trans (by decide)
  refine lv_iload_n hx hb dX12_lets_22 rfl (lv_at hl 2 rfl) ?_
  refine lv_iadd hx hb dX12_lets_23 ?_
  refine lv_topi (fun i_5 ei_5 => ?_)
  have vi_5 : i_5.toInt = 1760 + k.toInt := by have h9 := x_add ei_5 (by omega) (by omega); omega
  refine lv_lload hx hb dX12_lets_24 (lv_at hl 4 rfl) ?_
  refine va_last hx hb hK hP hD hS 52 3 mwd_a52 rfl (x_in (by omega) (by omega)) dX12_lets_26 (fun H locs hP hD hS => ?_)
  obtain ⟨f_6, ef_6⟩ : ∃ z9 : Nat → Int64, z9 = (vp_updL (σ.2.2.2 76) (Int32.toNatClampNeg i_5) b) := ⟨_, rfl⟩
  have hP : va_P D vwCl (mwd y ad zw (tJ (tJ σ 75 f_3) 76 f_6)) H := by rw [ef_6]; exact x_trP hP mwd_s52
  have hD : va_D A (mwd y ad zw (tJ (tJ σ 75 f_3) 76 f_6)) := by rw [ef_6]; exact x_trD hD mwd_s52
  have hvf_6 : bJ f_6 0 1000000000 := by rw [ef_6]; exact b_updJ hB76 (by omega) (by omega)
  exact x_vretW (u := (f_3, f_6)) hx hb hr hQ (by (try dsimp only); exact ⟨trivial, hvf_3, hvf_6⟩) hP hD hK hS dX12_lets_27 hlocks

def v_q_lets2 : List Cond := .code yX12_lets cX12_lets 7 none :: ([.fieldLink RX12 167 "SlopeRunnerModel" "slopeUp" "[J", .fieldLink RX12 170 "SlopeRunnerModel" "slopeDown" "[J"] ++ wsX120)
set_option maxHeartbeats 4000000 in
set_option maxRecDepth 100000 in
theorem q_lets2 (l : Launch) (D : va_G) (y : Nat → ClassId) (sz : Nat) (ad : Nat → Nat) (zw : Nat → Nat → Int32) (σ : OS) (k : Int32) (a b : Int64) (hk0 : 0 ≤ k.toInt) (hk1 : k.toInt < 1760) (ha0 : -1000000000 ≤ a.toInt) (ha1 : a.toInt ≤ 1000000000) (hb0 : 0 ≤ b.toInt) (hb1 : b.toInt ≤ 1000000000) (hB75 : bJ (σ.2.2.2 75) (-1000000000) 1000000000) (hB76 : bJ (σ.2.2.2 76) 0 1000000000) : Met l yX12_lets v_q_lets2 ({ frames := 0, cells := 0, slots := 0, locals := 0 } : Room) (va_Pc [.ref (ad 1), .int 2, .int k, .long a, .long b] (xPre D (xT y) (mwd y ad zw σ) sz)) (va_Qv (fun (u : (Nat → Int64) × (Nat → Int64)) => (True) ∧ bJ u.1 (-1000000000) 1000000000 ∧ bJ u.2 0 1000000000) (fun (u : (Nat → Int64) × (Nat → Int64)) => xB D (xT y) (va_A (mwd y ad zw σ) sz) (mwd y ad zw (tJ (tJ σ 75 u.1) 76 u.2))) (va_A (mwd y ad zw σ) sz)) 0 0 (va_A (mwd y ad zw σ) sz) := by
  refine x_metv (cc := cX12_lets) (maxL := 7) (by decide) rfl (Nat.le_of_ble_eq_true rfl) ?_
  intro p e s m below meth c A H locs Q hx hb hml hown hts hr hlocks hmn hA hP hK hD hS ls hl hQ
  have hl : lv_has ls 7 [(0, .ref (ad 1)), (1, .int 2), (2, .int k), (3, .long a), (5, .long b)] := hl
  have fl167 := hts (.fieldLink RX12 167 "SlopeRunnerModel" "slopeUp" "[J") (List.mem_of_getElem? (i := 1) rfl)
  have inX12 : ∀ w ∈ wsX120, w ∈ v_q_lets2 := (fun w h => List.mem_cons_of_mem _ (List.mem_append_right _ h))
  have kk_3520 : (3520 : Int32).toInt = 3520 := rfl
  have fl170 := hts (.fieldLink RX12 170 "SlopeRunnerModel" "slopeDown" "[J") (List.mem_of_getElem? (i := 2) rfl)
  refine lv_aload_n hx hb dX12_lets_0 rfl (lv_at hl 0 rfl) ?_
  refine va_get (D := D) (ci := 11) (v := .ref (ad 75)) (C := RX12) (T := TX12) (N := 85) hx hb hts inX12 hown hK hP 0 mwd_o0 rfl 75 (by decide) fl167 (fun _ h9 => h9) rfl dX12_lets_1 ?_
  refine lv_sipush (v := 1760) hx hb dX12_lets_4 (by decide) ?_
  refine lv_iload_n hx hb dX12_lets_7 rfl (lv_at hl 1 rfl) ?_
  refine lv_imul hx hb dX12_lets_8 ?_
  refine lv_topi (fun i_1 ei_1 => ?_)
  obtain rfl : i_1 = 3520 := ei_1.trans (by decide)
  refine lv_iload_n hx hb dX12_lets_9 rfl (lv_at hl 2 rfl) ?_
  refine lv_iadd hx hb dX12_lets_10 ?_
  refine lv_topi (fun i_2 ei_2 => ?_)
  have vi_2 : i_2.toInt = 3520 + k.toInt := by have h9 := x_add ei_2 (by omega) (by omega); omega
  refine lv_lload_n hx hb dX12_lets_11 rfl (lv_at hl 3 rfl) ?_
  refine va_last hx hb hK hP hD hS 51 3 mwd_a51 rfl (x_in (by omega) (by omega)) dX12_lets_12 (fun H locs hP hD hS => ?_)
  obtain ⟨f_3, ef_3⟩ : ∃ z9 : Nat → Int64, z9 = (vp_updL (σ.2.2.2 75) (Int32.toNatClampNeg i_2) a) := ⟨_, rfl⟩
  have hP : va_P D vwCl (mwd y ad zw (tJ σ 75 f_3)) H := by rw [ef_3]; exact x_trP hP mwd_s51
  have hD : va_D A (mwd y ad zw (tJ σ 75 f_3)) := by rw [ef_3]; exact x_trD hD mwd_s51
  have hvf_3 : bJ f_3 (-1000000000) 1000000000 := by rw [ef_3]; exact b_updJ hB75 (by omega) (by omega)
  refine lv_aload_n hx hb dX12_lets_13 rfl (lv_at hl 0 rfl) ?_
  refine va_get (D := D) (ci := 11) (v := .ref (ad 76)) (C := RX12) (T := TX12) (N := 85) hx hb hts inX12 hown hK hP 0 mwd_o0 rfl 76 (by decide) fl170 (fun _ h9 => h9) rfl dX12_lets_14 ?_
  refine lv_sipush (v := 1760) hx hb dX12_lets_17 (by decide) ?_
  refine lv_iload_n hx hb dX12_lets_20 rfl (lv_at hl 1 rfl) ?_
  refine lv_imul hx hb dX12_lets_21 ?_
  refine lv_topi (fun i_4 ei_4 => ?_)
  obtain rfl : i_4 = 3520 := ei_4.trans (by decide)
  refine lv_iload_n hx hb dX12_lets_22 rfl (lv_at hl 2 rfl) ?_
  refine lv_iadd hx hb dX12_lets_23 ?_
  refine lv_topi (fun i_5 ei_5 => ?_)
  have vi_5 : i_5.toInt = 3520 + k.toInt := by have h9 := x_add ei_5 (by omega) (by omega); omega
  refine lv_lload hx hb dX12_lets_24 (lv_at hl 4 rfl) ?_
  refine va_last hx hb hK hP hD hS 52 3 mwd_a52 rfl (x_in (by omega) (by omega)) dX12_lets_26 (fun H locs hP hD hS => ?_)
  obtain ⟨f_6, ef_6⟩ : ∃ z9 : Nat → Int64, z9 = (vp_updL (σ.2.2.2 76) (Int32.toNatClampNeg i_5) b) := ⟨_, rfl⟩
  have hP : va_P D vwCl (mwd y ad zw (tJ (tJ σ 75 f_3) 76 f_6)) H := by rw [ef_6]; exact x_trP hP mwd_s52
  have hD : va_D A (mwd y ad zw (tJ (tJ σ 75 f_3) 76 f_6)) := by rw [ef_6]; exact x_trD hD mwd_s52
  have hvf_6 : bJ f_6 0 1000000000 := by rw [ef_6]; exact b_updJ hB76 (by omega) (by omega)
  exact x_vretW (u := (f_3, f_6)) hx hb hr hQ (by (try dsimp only); exact ⟨trivial, hvf_3, hvf_6⟩) hP hD hK hS dX12_lets_27 hlocks

def v_q_shares : List Cond := .code yX12_shares cX12_shares 6 none :: ([.fieldLink RX12 167 "SlopeRunnerModel" "slopeUp" "[J", .fieldLink RX12 170 "SlopeRunnerModel" "slopeDown" "[J", .fieldLink RX12 387 "SlopeRunnerModel" "up" "J", .fieldLink RX12 391 "SlopeRunnerModel" "down" "J"] ++ ((wsV RX12 424 RX12 yX12_adds v_q_adds) ++ ((wsV RX12 457 RX12 yX12_lets v_q_lets0) ++ wsX120)))
theorem g_q_shares_0 : GoodIn v_q_shares (wsV RX12 424 RX12 yX12_adds v_q_adds) := goodIn_sub (fun w h => List.mem_cons_of_mem _ (List.mem_append_right _ (List.mem_append_left _ h))) (by decide +kernel)
theorem g_q_shares_1 : GoodIn v_q_shares (wsV RX12 457 RX12 yX12_lets v_q_lets0) := goodIn_sub (fun w h => List.mem_cons_of_mem _ (List.mem_append_right _ (List.mem_append_right _ (List.mem_append_left _ h)))) (by decide +kernel)
set_option maxHeartbeats 4000000 in
set_option maxRecDepth 100000 in
theorem q_shares (l : Launch) (D : va_G) (y : Nat → ClassId) (sz : Nat) (ad : Nat → Nat) (zw : Nat → Nat → Int32) (σ : OS) (k : Int32) (a b : Int64) (hk0 : 0 ≤ k.toInt) (hk1 : k.toInt < 1760) (ha0 : -1000000000 ≤ a.toInt) (ha1 : a.toInt ≤ 1000000000) (hb0 : 0 ≤ b.toInt) (hb1 : b.toInt ≤ 1000000000) (hB75 : bJ (σ.2.2.2 75) (-1000000000) 1000000000) (hB76 : bJ (σ.2.2.2 76) 0 1000000000) : Met l yX12_shares v_q_shares ({ frames := 4, cells := 0, slots := 0, locals := 108 } : Room) (va_Pc [.ref (ad 1), .int k, .long a, .long b] (xPre D (xT y) (mwd y ad zw σ) sz)) (va_Qv (fun (u : Int32 × Int64 × Int64 × (Nat → Int64) × (Nat → Int64)) => (-1000000000 ≤ u.2.1.toInt ∧ u.2.1.toInt ≤ 1000000000 ∧ 0 ≤ u.2.2.1.toInt ∧ u.2.2.1.toInt ≤ 1000000000) ∧ bJ u.2.2.2.1 (-1000000000) 1000000000 ∧ bJ u.2.2.2.2 0 1000000000) (fun (u : Int32 × Int64 × Int64 × (Nat → Int64) × (Nat → Int64)) => xB D (xT y) (va_A (mwd y ad zw σ) sz) (mwd y ad zw (tJ (tJ (sJ (sJ (sI σ 44 u.1) 42 u.2.1) 43 u.2.2.1) 75 u.2.2.2.1) 76 u.2.2.2.2))) (va_A (mwd y ad zw σ) sz)) 0 0 (va_A (mwd y ad zw σ) sz) := by
  refine x_metv (cc := cX12_shares) (maxL := 6) (by decide) rfl (Nat.le_of_ble_eq_true rfl) ?_
  intro p e s m below meth c A H locs Q hx hb hml hown hts hr hlocks hmn hA hP hK hD hS ls hl hQ
  have hl : lv_has ls 6 [(0, .ref (ad 1)), (1, .int k), (2, .long a), (4, .long b)] := hl
  have fl167 := hts (.fieldLink RX12 167 "SlopeRunnerModel" "slopeUp" "[J") (List.mem_of_getElem? (i := 1) rfl)
  have inX12 : ∀ w ∈ wsX120, w ∈ v_q_shares := (fun w h => List.mem_cons_of_mem _ (List.mem_append_right _ (List.mem_append_right _ (List.mem_append_right _ h))))
  have fl170 := hts (.fieldLink RX12 170 "SlopeRunnerModel" "slopeDown" "[J") (List.mem_of_getElem? (i := 2) rfl)
  have fl387 := hts (.fieldLink RX12 387 "SlopeRunnerModel" "up" "J") (List.mem_of_getElem? (i := 3) rfl)
  have fl391 := hts (.fieldLink RX12 391 "SlopeRunnerModel" "down" "J") (List.mem_of_getElem? (i := 4) rfl)
  have kk_0 : (0 : Int32).toInt = 0 := rfl
  refine lv_aload_n hx hb dX12_shares_0 rfl (lv_at hl 0 rfl) ?_
  refine lv_aload_n hx hb dX12_shares_1 rfl (lv_at hl 0 rfl) ?_
  refine va_get (D := D) (ci := 11) (v := .ref (ad 75)) (C := RX12) (T := TX12) (N := 85) hx hb hts inX12 hown hK hP 0 mwd_o0 rfl 75 (by decide) fl167 (fun _ h9 => h9) rfl dX12_shares_2 ?_
  refine lv_iload_n hx hb dX12_shares_5 rfl (lv_at hl 1 rfl) ?_
  refine va_lald hx hb hK hP 51 3 mwd_a51 rfl (x_in (by omega) (by omega)) dX12_shares_6 ?_
  refine lv_topl (fun j_1 ej_1 => ?_)
  have ej_1 : j_1 = (σ.2.2.2 75) (Int32.toNatClampNeg k) := ej_1
  have bj_1 := b_atJ hB75 ej_1
  refine lv_aload_n hx hb dX12_shares_7 rfl (lv_at hl 0 rfl) ?_
  refine va_get (D := D) (ci := 11) (v := .ref (ad 76)) (C := RX12) (T := TX12) (N := 85) hx hb hts inX12 hown hK hP 0 mwd_o0 rfl 76 (by decide) fl170 (fun _ h9 => h9) rfl dX12_shares_8 ?_
  refine lv_iload_n hx hb dX12_shares_11 rfl (lv_at hl 1 rfl) ?_
  refine va_lald hx hb hK hP 52 3 mwd_a52 rfl (x_in (by omega) (by omega)) dX12_shares_12 ?_
  refine lv_topl (fun j_2 ej_2 => ?_)
  have ej_2 : j_2 = (σ.2.2.2 76) (Int32.toNatClampNeg k) := ej_2
  have bj_2 := b_atJ hB76 ej_2
  refine lv_lload_n hx hb dX12_shares_13 rfl (lv_at hl 2 rfl) ?_
  refine lv_lload hx hb dX12_shares_14 (lv_at hl 3 rfl) ?_
  refine x_callvW (va_runV (As := [.long j_1, .long j_2, .long a, .long b]) (rest := []) ⟨hx, hb, hml, hown, hts⟩ (q_adds l D y H.size ad zw σ j_1 j_2 a b (by first | omega | decide) (by first | omega | decide) (by first | omega | decide) (by first | omega | decide) (by first | omega | decide) (by first | omega | decide) (by first | omega | decide) (by first | omega | decide)) (cwV 4 hts g_q_shares_0 rfl rfl rfl (by decide +kernel) ⟨Nat.le_of_ble_eq_true rfl, Nat.le_of_ble_eq_true rfl⟩) (x_preV (q := (RX12, TX12, 85)) hK hP hD (ci := 11) (q0 := 0) rfl mwd_o0) rfl rfl hl.1 rfl (lv_room (Nat.le_of_ble_eq_true rfl)) dX12_shares_16 ⟨Nat.le_of_ble_eq_true rfl, Nat.le_of_ble_eq_true rfl⟩) hP hD hS hA (fun u H locs hw hP hD hS => ?_)
  obtain ⟨n_3, j_4, j_5⟩ := u
  try dsimp only at hw
  have hP : va_P D vwCl (mwd y ad zw (sJ (sJ (sI σ 44 n_3) 42 j_4) 43 j_5)) H := hP
  have hD : va_D A (mwd y ad zw (sJ (sJ (sI σ 44 n_3) 42 j_4) 43 j_5)) := hD
  have hw : -1000000000 ≤ j_4.toInt ∧ j_4.toInt ≤ 1000000000 ∧ 0 ≤ j_5.toInt ∧ j_5.toInt ≤ 1000000000 := hw
  have hud_a := hw
  refine lv_aload_n hx hb dX12_shares_19 rfl (lv_at hl 0 rfl) ?_
  refine lv_iconst (v := 0) hx hb dX12_shares_20 (by decide) ?_
  refine lv_iload_n hx hb dX12_shares_21 rfl (lv_at hl 1 rfl) ?_
  refine lv_aload_n hx hb dX12_shares_22 rfl (lv_at hl 0 rfl) ?_
  refine va_get (D := D) (ci := 11) (v := .long j_4) (C := RX12) (T := TX12) (N := 85) hx hb hts inX12 hown hK hP 0 mwd_o0 rfl 42 (by decide) fl387 (fun _ h9 => h9) rfl dX12_shares_23 ?_
  refine lv_aload_n hx hb dX12_shares_26 rfl (lv_at hl 0 rfl) ?_
  refine va_get (D := D) (ci := 11) (v := .long j_5) (C := RX12) (T := TX12) (N := 85) hx hb hts inX12 hown hK hP 0 mwd_o0 rfl 43 (by decide) fl391 (fun _ h9 => h9) rfl dX12_shares_27 ?_
  refine x_callvW (va_runV (As := [.int 0, .int k, .long j_4, .long j_5]) (rest := []) ⟨hx, hb, hml, hown, hts⟩ (q_lets0 l D y H.size ad zw (sJ (sJ (sI σ 44 n_3) 42 j_4) 43 j_5) k j_4 j_5 (by first | omega | decide) (by first | omega | decide) (by first | omega | decide) (by first | omega | decide) (by first | omega | decide) (by first | omega | decide) hB75 hB76) (cwV 4 hts g_q_shares_1 rfl rfl rfl (by decide +kernel) ⟨Nat.le_of_ble_eq_true rfl, Nat.le_of_ble_eq_true rfl⟩) (x_preV (q := (RX12, TX12, 85)) hK hP hD (ci := 11) (q0 := 0) rfl mwd_o0) rfl rfl hl.1 rfl (lv_room (Nat.le_of_ble_eq_true rfl)) dX12_shares_30 ⟨Nat.le_of_ble_eq_true rfl, Nat.le_of_ble_eq_true rfl⟩) hP hD hS hA (fun u H locs hw hP hD hS => ?_)
  obtain ⟨f_6, f_7⟩ := u
  try dsimp only at hw
  have hP : va_P D vwCl (mwd y ad zw (tJ (tJ (sJ (sJ (sI σ 44 n_3) 42 j_4) 43 j_5) 75 f_6) 76 f_7)) H := hP
  have hD : va_D A (mwd y ad zw (tJ (tJ (sJ (sJ (sI σ 44 n_3) 42 j_4) 43 j_5) 75 f_6) 76 f_7)) := hD
  have hw : (True) ∧ bJ f_6 (-1000000000) 1000000000 ∧ bJ f_7 0 1000000000 := hw
  obtain ⟨hw, hg_8, hg_9⟩ := hw
  exact x_vretW (u := (n_3, j_4, j_5, f_6, f_7)) hx hb hr hQ (by (try dsimp only); exact ⟨hud_a, hg_8, hg_9⟩) hP hD hK hS dX12_shares_33 hlocks

