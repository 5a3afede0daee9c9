theorem dX1_init_0 : decode cX1_init 0 = .ok (.aload_n 0, 1) := by decide +kernel
theorem dX1_init_1 : decode cX1_init 1 = .ok (.invokespecial 3, 3) := by decide +kernel
theorem dX1_init_4 : decode cX1_init 4 = .ok (.aload_n 0, 1) := by decide +kernel
theorem dX1_init_5 : decode cX1_init 5 = .ok (.bipush 8, 2) := by decide +kernel
theorem dX1_init_7 : decode cX1_init 7 = .ok (.newarray .int, 2) := by decide +kernel
theorem dX1_init_9 : decode cX1_init 9 = .ok (.putfield 11, 3) := by decide +kernel
theorem dX1_init_12 : decode cX1_init 12 = .ok (.aload_n 0, 1) := by decide +kernel
theorem dX1_init_13 : decode cX1_init 13 = .ok (.bipush 8, 2) := by decide +kernel
theorem dX1_init_15 : decode cX1_init 15 = .ok (.newarray .int, 2) := by decide +kernel
theorem dX1_init_17 : decode cX1_init 17 = .ok (.putfield 17, 3) := by decide +kernel
theorem dX1_init_20 : decode cX1_init 20 = .ok (.return_, 1) := by decide +kernel
theorem dX2_init_0 : decode cX2_init 0 = .ok (.aload_n 0, 1) := by decide +kernel
theorem dX2_init_1 : decode cX2_init 1 = .ok (.invokespecial 1, 3) := by decide +kernel
theorem dX2_init_4 : decode cX2_init 4 = .ok (.aload_n 0, 1) := by decide +kernel
theorem dX2_init_5 : decode cX2_init 5 = .ok (.bipush 8, 2) := by decide +kernel
theorem dX2_init_7 : decode cX2_init 7 = .ok (.newarray .long, 2) := by decide +kernel
theorem dX2_init_9 : decode cX2_init 9 = .ok (.putfield 9, 3) := by decide +kernel
theorem dX2_init_12 : decode cX2_init 12 = .ok (.aload_n 0, 1) := by decide +kernel
theorem dX2_init_13 : decode cX2_init 13 = .ok (.bipush 40, 2) := by decide +kernel
theorem dX2_init_15 : decode cX2_init 15 = .ok (.newarray .int, 2) := by decide +kernel
theorem dX2_init_17 : decode cX2_init 17 = .ok (.putfield 15, 3) := by decide +kernel
theorem dX2_init_20 : decode cX2_init 20 = .ok (.aload_n 0, 1) := by decide +kernel
theorem dX2_init_21 : decode cX2_init 21 = .ok (.bipush 40, 2) := by decide +kernel
theorem dX2_init_23 : decode cX2_init 23 = .ok (.newarray .long, 2) := by decide +kernel
theorem dX2_init_25 : decode cX2_init 25 = .ok (.putfield 19, 3) := by decide +kernel
theorem dX2_init_28 : decode cX2_init 28 = .ok (.aload_n 0, 1) := by decide +kernel
theorem dX2_init_29 : decode cX2_init 29 = .ok (.bipush 40, 2) := by decide +kernel
theorem dX2_init_31 : decode cX2_init 31 = .ok (.newarray .long, 2) := by decide +kernel
theorem dX2_init_33 : decode cX2_init 33 = .ok (.putfield 22, 3) := by decide +kernel
theorem dX2_init_36 : decode cX2_init 36 = .ok (.return_, 1) := by decide +kernel
theorem dX4_init_0 : decode cX4_init 0 = .ok (.aload_n 0, 1) := by decide +kernel
theorem dX4_init_1 : decode cX4_init 1 = .ok (.invokespecial 5, 3) := by decide +kernel
theorem dX4_init_4 : decode cX4_init 4 = .ok (.aload_n 0, 1) := by decide +kernel
theorem dX4_init_5 : decode cX4_init 5 = .ok (.bipush 64, 2) := by decide +kernel
theorem dX4_init_7 : decode cX4_init 7 = .ok (.newarray .int, 2) := by decide +kernel
theorem dX4_init_9 : decode cX4_init 9 = .ok (.putfield 13, 3) := by decide +kernel
theorem dX4_init_12 : decode cX4_init 12 = .ok (.aload_n 0, 1) := by decide +kernel
theorem dX4_init_13 : decode cX4_init 13 = .ok (.bipush 84, 2) := by decide +kernel
theorem dX4_init_15 : decode cX4_init 15 = .ok (.newarray .int, 2) := by decide +kernel
theorem dX4_init_17 : decode cX4_init 17 = .ok (.putfield 17, 3) := by decide +kernel
theorem dX4_init_20 : decode cX4_init 20 = .ok (.return_, 1) := by decide +kernel
theorem dX6_init_0 : decode cX6_init 0 = .ok (.aload_n 0, 1) := by decide +kernel
theorem dX6_init_1 : decode cX6_init 1 = .ok (.invokespecial 7, 3) := by decide +kernel
theorem dX6_init_4 : decode cX6_init 4 = .ok (.aload_n 0, 1) := by decide +kernel
theorem dX6_init_5 : decode cX6_init 5 = .ok (.iconst 4, 1) := by decide +kernel
theorem dX6_init_6 : decode cX6_init 6 = .ok (.newarray .int, 2) := by decide +kernel
theorem dX6_init_8 : decode cX6_init 8 = .ok (.putfield 13, 3) := by decide +kernel
theorem dX6_init_11 : decode cX6_init 11 = .ok (.aload_n 0, 1) := by decide +kernel
theorem dX6_init_12 : decode cX6_init 12 = .ok (.bipush 24, 2) := by decide +kernel
theorem dX6_init_14 : decode cX6_init 14 = .ok (.newarray .long, 2) := by decide +kernel
theorem dX6_init_16 : decode cX6_init 16 = .ok (.putfield 17, 3) := by decide +kernel
theorem dX6_init_19 : decode cX6_init 19 = .ok (.aload_n 0, 1) := by decide +kernel
theorem dX6_init_20 : decode cX6_init 20 = .ok (.bipush 24, 2) := by decide +kernel
theorem dX6_init_22 : decode cX6_init 22 = .ok (.newarray .int, 2) := by decide +kernel
theorem dX6_init_24 : decode cX6_init 24 = .ok (.putfield 21, 3) := by decide +kernel
theorem dX6_init_27 : decode cX6_init 27 = .ok (.aload_n 0, 1) := by decide +kernel
theorem dX6_init_28 : decode cX6_init 28 = .ok (.sipush 350, 3) := by decide +kernel
theorem dX6_init_31 : decode cX6_init 31 = .ok (.newarray .int, 2) := by decide +kernel
theorem dX6_init_33 : decode cX6_init 33 = .ok (.putfield 24, 3) := by decide +kernel
theorem dX6_init_36 : decode cX6_init 36 = .ok (.aload_n 0, 1) := by decide +kernel
theorem dX6_init_37 : decode cX6_init 37 = .ok (.sipush 700, 3) := by decide +kernel
theorem dX6_init_40 : decode cX6_init 40 = .ok (.newarray .int, 2) := by decide +kernel
theorem dX6_init_42 : decode cX6_init 42 = .ok (.putfield 27, 3) := by decide +kernel
theorem dX6_init_45 : decode cX6_init 45 = .ok (.aload_n 0, 1) := by decide +kernel
theorem dX6_init_46 : decode cX6_init 46 = .ok (.sipush 700, 3) := by decide +kernel
theorem dX6_init_49 : decode cX6_init 49 = .ok (.newarray .int, 2) := by decide +kernel
theorem dX6_init_51 : decode cX6_init 51 = .ok (.putfield 30, 3) := by decide +kernel
theorem dX6_init_54 : decode cX6_init 54 = .ok (.return_, 1) := by decide +kernel
theorem dX7_init_0 : decode cX7_init 0 = .ok (.aload_n 0, 1) := by decide +kernel
theorem dX7_init_1 : decode cX7_init 1 = .ok (.invokespecial 1, 3) := by decide +kernel
theorem dX7_init_4 : decode cX7_init 4 = .ok (.aload_n 0, 1) := by decide +kernel
theorem dX7_init_5 : decode cX7_init 5 = .ok (.sipush 1359, 3) := by decide +kernel
theorem dX7_init_8 : decode cX7_init 8 = .ok (.newarray .long, 2) := by decide +kernel
theorem dX7_init_10 : decode cX7_init 10 = .ok (.putfield 9, 3) := by decide +kernel
theorem dX7_init_13 : decode cX7_init 13 = .ok (.aload_n 0, 1) := by decide +kernel
theorem dX7_init_14 : decode cX7_init 14 = .ok (.sipush 1359, 3) := by decide +kernel
theorem dX7_init_17 : decode cX7_init 17 = .ok (.newarray .long, 2) := by decide +kernel
theorem dX7_init_19 : decode cX7_init 19 = .ok (.putfield 15, 3) := by decide +kernel
theorem dX7_init_22 : decode cX7_init 22 = .ok (.aload_n 0, 1) := by decide +kernel
theorem dX7_init_23 : decode cX7_init 23 = .ok (.sipush 1359, 3) := by decide +kernel
theorem dX7_init_26 : decode cX7_init 26 = .ok (.newarray .long, 2) := by decide +kernel
theorem dX7_init_28 : decode cX7_init 28 = .ok (.putfield 18, 3) := by decide +kernel
theorem dX7_init_31 : decode cX7_init 31 = .ok (.aload_n 0, 1) := by decide +kernel
theorem dX7_init_32 : decode cX7_init 32 = .ok (.sipush 1359, 3) := by decide +kernel
theorem dX7_init_35 : decode cX7_init 35 = .ok (.newarray .int, 2) := by decide +kernel
theorem dX7_init_37 : decode cX7_init 37 = .ok (.putfield 21, 3) := by decide +kernel
theorem dX7_init_40 : decode cX7_init 40 = .ok (.aload_n 0, 1) := by decide +kernel
theorem dX7_init_41 : decode cX7_init 41 = .ok (.sipush 1359, 3) := by decide +kernel
theorem dX7_init_44 : decode cX7_init 44 = .ok (.newarray .boolean, 2) := by decide +kernel
theorem dX7_init_46 : decode cX7_init 46 = .ok (.putfield 25, 3) := by decide +kernel
theorem dX7_init_49 : decode cX7_init 49 = .ok (.return_, 1) := by decide +kernel
theorem dX8_init_0 : decode cX8_init 0 = .ok (.aload_n 0, 1) := by decide +kernel
theorem dX8_init_1 : decode cX8_init 1 = .ok (.invokespecial 5, 3) := by decide +kernel
theorem dX8_init_4 : decode cX8_init 4 = .ok (.aload_n 0, 1) := by decide +kernel
theorem dX8_init_5 : decode cX8_init 5 = .ok (.sipush 1359, 3) := by decide +kernel
theorem dX8_init_8 : decode cX8_init 8 = .ok (.newarray .long, 2) := by decide +kernel
theorem dX8_init_10 : decode cX8_init 10 = .ok (.putfield 11, 3) := by decide +kernel
theorem dX8_init_13 : decode cX8_init 13 = .ok (.aload_n 0, 1) := by decide +kernel
theorem dX8_init_14 : decode cX8_init 14 = .ok (.sipush 1359, 3) := by decide +kernel
theorem dX8_init_17 : decode cX8_init 17 = .ok (.newarray .int, 2) := by decide +kernel
theorem dX8_init_19 : decode cX8_init 19 = .ok (.putfield 15, 3) := by decide +kernel
theorem dX8_init_22 : decode cX8_init 22 = .ok (.aload_n 0, 1) := by decide +kernel
theorem dX8_init_23 : decode cX8_init 23 = .ok (.sipush 1359, 3) := by decide +kernel
theorem dX8_init_26 : decode cX8_init 26 = .ok (.newarray .int, 2) := by decide +kernel
theorem dX8_init_28 : decode cX8_init 28 = .ok (.putfield 19, 3) := by decide +kernel
theorem dX8_init_31 : decode cX8_init 31 = .ok (.aload_n 0, 1) := by decide +kernel
theorem dX8_init_32 : decode cX8_init 32 = .ok (.sipush 1359, 3) := by decide +kernel
theorem dX8_init_35 : decode cX8_init 35 = .ok (.newarray .int, 2) := by decide +kernel
theorem dX8_init_37 : decode cX8_init 37 = .ok (.putfield 22, 3) := by decide +kernel
theorem dX8_init_40 : decode cX8_init 40 = .ok (.aload_n 0, 1) := by decide +kernel
theorem dX8_init_41 : decode cX8_init 41 = .ok (.bipush 12, 2) := by decide +kernel
theorem dX8_init_43 : decode cX8_init 43 = .ok (.newarray .int, 2) := by decide +kernel
theorem dX8_init_45 : decode cX8_init 45 = .ok (.putfield 25, 3) := by decide +kernel
theorem dX8_init_48 : decode cX8_init 48 = .ok (.aload_n 0, 1) := by decide +kernel
theorem dX8_init_49 : decode cX8_init 49 = .ok (.iconst (-1), 1) := by decide +kernel
theorem dX8_init_50 : decode cX8_init 50 = .ok (.putfield 28, 3) := by decide +kernel
theorem dX8_init_53 : decode cX8_init 53 = .ok (.aload_n 0, 1) := by decide +kernel
theorem dX8_init_54 : decode cX8_init 54 = .ok (.lconst 0, 1) := by decide +kernel
theorem dX8_init_55 : decode cX8_init 55 = .ok (.putfield 34, 3) := by decide +kernel
theorem dX8_init_58 : decode cX8_init 58 = .ok (.return_, 1) := by decide +kernel
def v_c_Grouping_init : List Cond := .code yX1_init cX1_init 1 none :: ([.fieldLink RX1 11 "SlopeRunner$Grouping" "group" "[I", .fieldLink RX1 17 "SlopeRunner$Grouping" "apart" "[I", .methodLink RX1 3 objectInit, .instanceMethod objectInit, .code objectInit ⟨#[0xb1]⟩ 1 none, .arrayClass .int] ++ wsX10)
set_option maxHeartbeats 4000000 in
set_option maxRecDepth 100000 in
theorem c_Grouping_init (l : Launch) (D : va_G) (y : Nat → ClassId) (sz : Nat) (h0 : Nat) : Met l yX1_init v_c_Grouping_init ({ frames := 1, cells := 2, slots := 16, locals := 12 } : Room) (va_Pc [.ref h0] (xPre D (xT y) [(h0, .inr (0, [.null, .null, .int 0]))] sz)) (va_Qv (fun (_ : Nat × Nat) => True) (fun (u : Nat × Nat) => xB D (xT y) (va_A [(h0, .inr (0, [.null, .null, .int 0]))] sz) [(h0, .inr (0, [.ref u.1, .ref u.2, .int 0])), (u.1, .inl (y 2, 8, .inl (fun _ => 0))), (u.2, .inl (y 2, 8, .inl (fun _ => 0)))]) (va_A [(h0, .inr (0, [.null, .null, .int 0]))] sz)) 2 16 (va_A [(h0, .inr (0, [.null, .null, .int 0]))] sz) := by
  refine x_metv (cc := cX1_init) (maxL := 1) (by decide) rfl (Nat.le_of_ble_eq_true rfl) ?_
  intro p e s m below meth c A H locs Q hx hb hml hown hts hr hlocks hmn hA hP hK hD hS ls hl hQ
  have hl : lv_has ls 1 [(0, .ref h0)] := hl
  have fl11 := hts (.fieldLink RX1 11 "SlopeRunner$Grouping" "group" "[I") (by decide +kernel)
  have inX1 : ∀ w ∈ wsX10, w ∈ v_c_Grouping_init := (fun w h => List.mem_cons_of_mem _ (List.mem_append_right _ h))
  have fl17 := hts (.fieldLink RX1 17 "SlopeRunner$Grouping" "apart" "[I") (by decide +kernel)
  refine lv_aload_n hx hb dX1_init_0 rfl (lv_at hl 0 rfl) ?_
  refine W.objInit hx hb hown (hts (.methodLink RX1 3 objectInit) (by decide +kernel)) (hts (.instanceMethod objectInit) (by decide +kernel)) (hts (.code objectInit ⟨#[0xb1]⟩ 1 none) (by decide +kernel)) rfl (by rw [hml]; exact hl.1) rfl dX1_init_1 (Nat.le_of_ble_eq_true rfl) (Nat.le_of_ble_eq_true rfl) ?_
  refine W.eq (g2 := F0 m 4 ls []) rfl ?_
  refine lv_aload_n hx hb dX1_init_4 rfl (lv_at hl 0 rfl) ?_
  refine lv_bipush (v := 8) hx hb dX1_init_5 (by decide) ?_
  refine x_newa (N' := 8) (a0 := (8, .inl (fun _ => 0))) (t0 := 2) (ty := .int) hx hb (hts (.arrayClass .int) (by decide +kernel)) rfl rfl hK hP hD hS hA (x_aI 8) (by decide) (by decide) (by decide) (Nat.le_of_ble_eq_true rfl) (Nat.le_of_ble_eq_true rfl) dX1_init_7 (fun q_1 H hP hD hS => ?_)
  have hP : va_P D vwCl [(h0, .inr (0, [.null, .null, .int 0])), (q_1, .inl (y 2, 8, .inl (fun _ => 0)))] H := hP
  have hD : va_D A [(h0, .inr (0, [.null, .null, .int 0])), (q_1, .inl (y 2, 8, .inl (fun _ => 0)))] := hD
  refine W.widen (k := 1) (n := 8) (Nat.le_of_ble_eq_true rfl) (Nat.le_of_ble_eq_true rfl) ?_
  refine va_putF (D := D) (ci := 0) (v := .ref q_1) (ty := (.array .int)) (C := RX1) (T := TX1) (N := 3) hx hb hts inX1 tyX1 tyX1_ok nmX1 hown hK hP hD hS 0 rfl rfl 0 (by decide) fl11 (fun _ h9 => h9) rfl hmn rfl (by decide +kernel) rfl rfl (Nat.le_of_ble_eq_true rfl) dX1_init_9 (fun H locs hP hD hS => ?_)
  have hP : va_P D vwCl [(h0, .inr (0, [.ref q_1, .null, .int 0])), (q_1, .inl (y 2, 8, .inl (fun _ => 0)))] H := hP
  have hD : va_D A [(h0, .inr (0, [.ref q_1, .null, .int 0])), (q_1, .inl (y 2, 8, .inl (fun _ => 0)))] := hD
  refine lv_aload_n hx hb dX1_init_12 rfl (lv_at hl 0 rfl) ?_
  refine lv_bipush (v := 8) hx hb dX1_init_13 (by decide) ?_
  refine x_newa (N' := 8) (a0 := (8, .inl (fun _ => 0))) (t0 := 2) (ty := .int) hx hb (hts (.arrayClass .int) (by decide +kernel)) rfl rfl hK hP hD hS hA (x_aI 8) (by decide) (by decide) (by decide) (Nat.le_of_ble_eq_true rfl) (Nat.le_of_ble_eq_true rfl) dX1_init_15 (fun q_2 H hP hD hS => ?_)
  have hP : va_P D vwCl [(h0, .inr (0, [.ref q_1, .null, .int 0])), (q_1, .inl (y 2, 8, .inl (fun _ => 0))), (q_2, .inl (y 2, 8, .inl (fun _ => 0)))] H := hP
  have hD : va_D A [(h0, .inr (0, [.ref q_1, .null, .int 0])), (q_1, .inl (y 2, 8, .inl (fun _ => 0))), (q_2, .inl (y 2, 8, .inl (fun _ => 0)))] := hD
  refine W.widen (k := 2) (n := 16) (Nat.le_of_ble_eq_true rfl) (Nat.le_of_ble_eq_true rfl) ?_
  refine va_putF (D := D) (ci := 0) (v := .ref q_2) (ty := (.array .int)) (C := RX1) (T := TX1) (N := 3) hx hb hts inX1 tyX1 tyX1_ok nmX1 hown hK hP hD hS 0 rfl rfl 1 (by decide) fl17 (fun _ h9 => h9) rfl hmn rfl (by decide +kernel) rfl rfl (Nat.le_of_ble_eq_true rfl) dX1_init_17 (fun H locs hP hD hS => ?_)
  have hP : va_P D vwCl [(h0, .inr (0, [.ref q_1, .ref q_2, .int 0])), (q_1, .inl (y 2, 8, .inl (fun _ => 0))), (q_2, .inl (y 2, 8, .inl (fun _ => 0)))] H := hP
  have hD : va_D A [(h0, .inr (0, [.ref q_1, .ref q_2, .int 0])), (q_1, .inl (y 2, 8, .inl (fun _ => 0))), (q_2, .inl (y 2, 8, .inl (fun _ => 0)))] := hD
  exact x_vret (u := (q_1, q_2)) hx hb hr trivial hP hD hK hS [0, 1, 2] rfl (by decide) dX1_init_20 hlocks hQ

def v_c_Inputs_init : List Cond := .code yX2_init cX2_init 1 none :: ([.fieldLink RX2 9 "SlopeRunner$Inputs" "value" "[J", .fieldLink RX2 15 "SlopeRunner$Inputs" "changed" "[I", .fieldLink RX2 19 "SlopeRunner$Inputs" "before" "[J", .fieldLink RX2 22 "SlopeRunner$Inputs" "after" "[J", .methodLink RX2 1 objectInit, .instanceMethod objectInit, .code objectInit ⟨#[0xb1]⟩ 1 none, .arrayClass .long, .arrayClass .int] ++ wsX20)
set_option maxHeartbeats 4000000 in
set_option maxRecDepth 100000 in
theorem c_Inputs_init (l : Launch) (D : va_G) (y : Nat → ClassId) (sz : Nat) (h0 : Nat) : Met l yX2_init v_c_Inputs_init ({ frames := 1, cells := 4, slots := 128, locals := 12 } : Room) (va_Pc [.ref h0] (xPre D (xT y) [(h0, .inr (1, [.null, .null, .null, .null, .int 0, .int 0, .int 0]))] sz)) (va_Qv (fun (_ : Nat × Nat × Nat × Nat) => True) (fun (u : Nat × Nat × Nat × Nat) => xB D (xT y) (va_A [(h0, .inr (1, [.null, .null, .null, .null, .int 0, .int 0, .int 0]))] sz) [(h0, .inr (1, [.ref u.1, .ref u.2.1, .ref u.2.2.1, .ref u.2.2.2, .int 0, .int 0, .int 0])), (u.1, .inl (y 3, 8, .inr (.inl (fun _ => 0)))), (u.2.1, .inl (y 2, 40, .inl (fun _ => 0))), (u.2.2.1, .inl (y 3, 40, .inr (.inl (fun _ => 0)))), (u.2.2.2, .inl (y 3, 40, .inr (.inl (fun _ => 0))))]) (va_A [(h0, .inr (1, [.null, .null, .null, .null, .int 0, .int 0, .int 0]))] sz)) 4 128 (va_A [(h0, .inr (1, [.null, .null, .null, .null, .int 0, .int 0, .int 0]))] sz) := by
  refine x_metv (cc := cX2_init) (maxL := 1) (by decide) rfl (Nat.le_of_ble_eq_true rfl) ?_
  intro p e s m below meth c A H locs Q hx hb hml hown hts hr hlocks hmn hA hP hK hD hS ls hl hQ
  have hl : lv_has ls 1 [(0, .ref h0)] := hl
  have fl9 := hts (.fieldLink RX2 9 "SlopeRunner$Inputs" "value" "[J") (by decide +kernel)
  have inX2 : ∀ w ∈ wsX20, w ∈ v_c_Inputs_init := (fun w h => List.mem_cons_of_mem _ (List.mem_append_right _ h))
  have fl15 := hts (.fieldLink RX2 15 "SlopeRunner$Inputs" "changed" "[I") (by decide +kernel)
  have fl19 := hts (.fieldLink RX2 19 "SlopeRunner$Inputs" "before" "[J") (by decide +kernel)
  have fl22 := hts (.fieldLink RX2 22 "SlopeRunner$Inputs" "after" "[J") (by decide +kernel)
  refine lv_aload_n hx hb dX2_init_0 rfl (lv_at hl 0 rfl) ?_
  refine W.objInit hx hb hown (hts (.methodLink RX2 1 objectInit) (by decide +kernel)) (hts (.instanceMethod objectInit) (by decide +kernel)) (hts (.code objectInit ⟨#[0xb1]⟩ 1 none) (by decide +kernel)) rfl (by rw [hml]; exact hl.1) rfl dX2_init_1 (Nat.le_of_ble_eq_true rfl) (Nat.le_of_ble_eq_true rfl) ?_
  refine W.eq (g2 := F0 m 4 ls []) rfl ?_
  refine lv_aload_n hx hb dX2_init_4 rfl (lv_at hl 0 rfl) ?_
  refine lv_bipush (v := 8) hx hb dX2_init_5 (by decide) ?_
  refine x_newa (N' := 8) (a0 := (8, .inr (.inl (fun _ => 0)))) (t0 := 3) (ty := .long) hx hb (hts (.arrayClass .long) (by decide +kernel)) rfl rfl hK hP hD hS hA (x_aJ 8) (by decide) (by decide) (by decide) (Nat.le_of_ble_eq_true rfl) (Nat.le_of_ble_eq_true rfl) dX2_init_7 (fun q_1 H hP hD hS => ?_)
  have hP : va_P D vwCl [(h0, .inr (1, [.null, .null, .null, .null, .int 0, .int 0, .int 0])), (q_1, .inl (y 3, 8, .inr (.inl (fun _ => 0))))] H := hP
  have hD : va_D A [(h0, .inr (1, [.null, .null, .null, .null, .int 0, .int 0, .int 0])), (q_1, .inl (y 3, 8, .inr (.inl (fun _ => 0))))] := hD
  refine W.widen (k := 1) (n := 8) (Nat.le_of_ble_eq_true rfl) (Nat.le_of_ble_eq_true rfl) ?_
  refine va_putF (D := D) (ci := 1) (v := .ref q_1) (ty := (.array .long)) (C := RX2) (T := TX2) (N := 7) hx hb hts inX2 tyX2 tyX2_ok nmX2 hown hK hP hD hS 0 rfl rfl 0 (by decide) fl9 (fun _ h9 => h9) rfl hmn rfl (by decide +kernel) rfl rfl (Nat.le_of_ble_eq_true rfl) dX2_init_9 (fun H locs hP hD hS => ?_)
  have hP : va_P D vwCl [(h0, .inr (1, [.ref q_1, .null, .null, .null, .int 0, .int 0, .int 0])), (q_1, .inl (y 3, 8, .inr (.inl (fun _ => 0))))] H := hP
  have hD : va_D A [(h0, .inr (1, [.ref q_1, .null, .null, .null, .int 0, .int 0, .int 0])), (q_1, .inl (y 3, 8, .inr (.inl (fun _ => 0))))] := hD
  refine lv_aload_n hx hb dX2_init_12 rfl (lv_at hl 0 rfl) ?_
  refine lv_bipush (v := 40) hx hb dX2_init_13 (by decide) ?_
  refine x_newa (N' := 40) (a0 := (40, .inl (fun _ => 0))) (t0 := 2) (ty := .int) hx hb (hts (.arrayClass .int) (by decide +kernel)) rfl rfl hK hP hD hS hA (x_aI 40) (by decide) (by decide) (by decide) (Nat.le_of_ble_eq_true rfl) (Nat.le_of_ble_eq_true rfl) dX2_init_15 (fun q_2 H hP hD hS => ?_)
  have hP : va_P D vwCl [(h0, .inr (1, [.ref q_1, .null, .null, .null, .int 0, .int 0, .int 0])), (q_1, .inl (y 3, 8, .inr (.inl (fun _ => 0)))), (q_2, .inl (y 2, 40, .inl (fun _ => 0)))] H := hP
  have hD : va_D A [(h0, .inr (1, [.ref q_1, .null, .null, .null, .int 0, .int 0, .int 0])), (q_1, .inl (y 3, 8, .inr (.inl (fun _ => 0)))), (q_2, .inl (y 2, 40, .inl (fun _ => 0)))] := hD
  refine W.widen (k := 2) (n := 48) (Nat.le_of_ble_eq_true rfl) (Nat.le_of_ble_eq_true rfl) ?_
  refine va_putF (D := D) (ci := 1) (v := .ref q_2) (ty := (.array .int)) (C := RX2) (T := TX2) (N := 7) hx hb hts inX2 tyX2 tyX2_ok nmX2 hown hK hP hD hS 0 rfl rfl 1 (by decide) fl15 (fun _ h9 => h9) rfl hmn rfl (by decide +kernel) rfl rfl (Nat.le_of_ble_eq_true rfl) dX2_init_17 (fun H locs hP hD hS => ?_)
  have hP : va_P D vwCl [(h0, .inr (1, [.ref q_1, .ref q_2, .null, .null, .int 0, .int 0, .int 0])), (q_1, .inl (y 3, 8, .inr (.inl (fun _ => 0)))), (q_2, .inl (y 2, 40, .inl (fun _ => 0)))] H := hP
  have hD : va_D A [(h0, .inr (1, [.ref q_1, .ref q_2, .null, .null, .int 0, .int 0, .int 0])), (q_1, .inl (y 3, 8, .inr (.inl (fun _ => 0)))), (q_2, .inl (y 2, 40, .inl (fun _ => 0)))] := hD
  refine lv_aload_n hx hb dX2_init_20 rfl (lv_at hl 0 rfl) ?_
  refine lv_bipush (v := 40) hx hb dX2_init_21 (by decide) ?_
  refine x_newa (N' := 40) (a0 := (40, .inr (.inl (fun _ => 0)))) (t0 := 3) (ty := .long) hx hb (hts (.arrayClass .long) (by decide +kernel)) rfl rfl hK hP hD hS hA (x_aJ 40) (by decide) (by decide) (by decide) (Nat.le_of_ble_eq_true rfl) (Nat.le_of_ble_eq_true rfl) dX2_init_23 (fun q_3 H hP hD hS => ?_)
  have hP : va_P D vwCl [(h0, .inr (1, [.ref q_1, .ref q_2, .null, .null, .int 0, .int 0, .int 0])), (q_1, .inl (y 3, 8, .inr (.inl (fun _ => 0)))), (q_2, .inl (y 2, 40, .inl (fun _ => 0))), (q_3, .inl (y 3, 40, .inr (.inl (fun _ => 0))))] H := hP
  have hD : va_D A [(h0, .inr (1, [.ref q_1, .ref q_2, .null, .null, .int 0, .int 0, .int 0])), (q_1, .inl (y 3, 8, .inr (.inl (fun _ => 0)))), (q_2, .inl (y 2, 40, .inl (fun _ => 0))), (q_3, .inl (y 3, 40, .inr (.inl (fun _ => 0))))] := hD
  refine W.widen (k := 3) (n := 88) (Nat.le_of_ble_eq_true rfl) (Nat.le_of_ble_eq_true rfl) ?_
  refine va_putF (D := D) (ci := 1) (v := .ref q_3) (ty := (.array .long)) (C := RX2) (T := TX2) (N := 7) hx hb hts inX2 tyX2 tyX2_ok nmX2 hown hK hP hD hS 0 rfl rfl 2 (by decide) fl19 (fun _ h9 => h9) rfl hmn rfl (by decide +kernel) rfl rfl (Nat.le_of_ble_eq_true rfl) dX2_init_25 (fun H locs hP hD hS => ?_)
  have hP : va_P D vwCl [(h0, .inr (1, [.ref q_1, .ref q_2, .ref q_3, .null, .int 0, .int 0, .int 0])), (q_1, .inl (y 3, 8, .inr (.inl (fun _ => 0)))), (q_2, .inl (y 2, 40, .inl (fun _ => 0))), (q_3, .inl (y 3, 40, .inr (.inl (fun _ => 0))))] H := hP
  have hD : va_D A [(h0, .inr (1, [.ref q_1, .ref q_2, .ref q_3, .null, .int 0, .int 0, .int 0])), (q_1, .inl (y 3, 8, .inr (.inl (fun _ => 0)))), (q_2, .inl (y 2, 40, .inl (fun _ => 0))), (q_3, .inl (y 3, 40, .inr (.inl (fun _ => 0))))] := hD
  refine lv_aload_n hx hb dX2_init_28 rfl (lv_at hl 0 rfl) ?_
  refine lv_bipush (v := 40) hx hb dX2_init_29 (by decide) ?_
  refine x_newa (N' := 40) (a0 := (40, .inr (.inl (fun _ => 0)))) (t0 := 3) (ty := .long) hx hb (hts (.arrayClass .long) (by decide +kernel)) rfl rfl hK hP hD hS hA (x_aJ 40) (by decide) (by decide) (by decide) (Nat.le_of_ble_eq_true rfl) (Nat.le_of_ble_eq_true rfl) dX2_init_31 (fun q_4 H hP hD hS => ?_)
  have hP : va_P D vwCl [(h0, .inr (1, [.ref q_1, .ref q_2, .ref q_3, .null, .int 0, .int 0, .int 0])), (q_1, .inl (y 3, 8, .inr (.inl (fun _ => 0)))), (q_2, .inl (y 2, 40, .inl (fun _ => 0))), (q_3, .inl (y 3, 40, .inr (.inl (fun _ => 0)))), (q_4, .inl (y 3, 40, .inr (.inl (fun _ => 0))))] H := hP
  have hD : va_D A [(h0, .inr (1, [.ref q_1, .ref q_2, .ref q_3, .null, .int 0, .int 0, .int 0])), (q_1, .inl (y 3, 8, .inr (.inl (fun _ => 0)))), (q_2, .inl (y 2, 40, .inl (fun _ => 0))), (q_3, .inl (y 3, 40, .inr (.inl (fun _ => 0)))), (q_4, .inl (y 3, 40, .inr (.inl (fun _ => 0))))] := hD
  refine W.widen (k := 4) (n := 128) (Nat.le_of_ble_eq_true rfl) (Nat.le_of_ble_eq_true rfl) ?_
  refine va_putF (D := D) (ci := 1) (v := .ref q_4) (ty := (.array .long)) (C := RX2) (T := TX2) (N := 7) hx hb hts inX2 tyX2 tyX2_ok nmX2 hown hK hP hD hS 0 rfl rfl 3 (by decide) fl22 (fun _ h9 => h9) rfl hmn rfl (by decide +kernel) rfl rfl (Nat.le_of_ble_eq_true rfl) dX2_init_33 (fun H locs hP hD hS => ?_)
  have hP : va_P D vwCl [(h0, .inr (1, [.ref q_1, .ref q_2, .ref q_3, .ref q_4, .int 0, .int 0, .int 0])), (q_1, .inl (y 3, 8, .inr (.inl (fun _ => 0)))), (q_2, .inl (y 2, 40, .inl (fun _ => 0))), (q_3, .inl (y 3, 40, .inr (.inl (fun _ => 0)))), (q_4, .inl (y 3, 40, .inr (.inl (fun _ => 0))))] H := hP
  have hD : va_D A [(h0, .inr (1, [.ref q_1, .ref q_2, .ref q_3, .ref q_4, .int 0, .int 0, .int 0])), (q_1, .inl (y 3, 8, .inr (.inl (fun _ => 0)))), (q_2, .inl (y 2, 40, .inl (fun _ => 0))), (q_3, .inl (y 3, 40, .inr (.inl (fun _ => 0)))), (q_4, .inl (y 3, 40, .inr (.inl (fun _ => 0))))] := hD
  exact x_vret (u := (q_1, q_2, q_3, q_4)) hx hb hr trivial hP hD hK hS [0, 1, 2, 3, 4] rfl (by decide) dX2_init_36 hlocks hQ

def v_c_Machine_init : List Cond := .code yX4_init cX4_init 1 none :: ([.fieldLink RX4 13 "SlopeRunner$Machine" "stack" "[I", .fieldLink RX4 17 "SlopeRunner$Machine" "held" "[I", .methodLink RX4 5 objectInit, .instanceMethod objectInit, .code objectInit ⟨#[0xb1]⟩ 1 none, .arrayClass .int] ++ wsX40)
set_option maxHeartbeats 4000000 in
set_option maxRecDepth 100000 in
theorem c_Machine_init (l : Launch) (D : va_G) (y : Nat → ClassId) (sz : Nat) (h0 : Nat) : Met l yX4_init v_c_Machine_init ({ frames := 1, cells := 2, slots := 148, locals := 12 } : Room) (va_Pc [.ref h0] (xPre D (xT y) [(h0, .inr (3, [.null, .null, .null, .null, .int 0, .int 0]))] sz)) (va_Qv (fun (_ : Nat × Nat) => True) (fun (u : Nat × Nat) => xB D (xT y) (va_A [(h0, .inr (3, [.null, .null, .null, .null, .int 0, .int 0]))] sz) [(h0, .inr (3, [.ref u.1, .ref u.2, .null, .null, .int 0, .int 0])), (u.1, .inl (y 2, 64, .inl (fun _ => 0))), (u.2, .inl (y 2, 84, .inl (fun _ => 0)))]) (va_A [(h0, .inr (3, [.null, .null, .null, .null, .int 0, .int 0]))] sz)) 2 148 (va_A [(h0, .inr (3, [.null, .null, .null, .null, .int 0, .int 0]))] sz) := by
  refine x_metv (cc := cX4_init) (maxL := 1) (by decide) rfl (Nat.le_of_ble_eq_true rfl) ?_
  intro p e s m below meth c A H locs Q hx hb hml hown hts hr hlocks hmn hA hP hK hD hS ls hl hQ
  have hl : lv_has ls 1 [(0, .ref h0)] := hl
  have fl13 := hts (.fieldLink RX4 13 "SlopeRunner$Machine" "stack" "[I") (by decide +kernel)
  have inX4 : ∀ w ∈ wsX40, w ∈ v_c_Machine_init := (fun w h => List.mem_cons_of_mem _ (List.mem_append_right _ h))
  have fl17 := hts (.fieldLink RX4 17 "SlopeRunner$Machine" "held" "[I") (by decide +kernel)
  refine lv_aload_n hx hb dX4_init_0 rfl (lv_at hl 0 rfl) ?_
  refine W.objInit hx hb hown (hts (.methodLink RX4 5 objectInit) (by decide +kernel)) (hts (.instanceMethod objectInit) (by decide +kernel)) (hts (.code objectInit ⟨#[0xb1]⟩ 1 none) (by decide +kernel)) rfl (by rw [hml]; exact hl.1) rfl dX4_init_1 (Nat.le_of_ble_eq_true rfl) (Nat.le_of_ble_eq_true rfl) ?_
  refine W.eq (g2 := F0 m 4 ls []) rfl ?_
  refine lv_aload_n hx hb dX4_init_4 rfl (lv_at hl 0 rfl) ?_
  refine lv_bipush (v := 64) hx hb dX4_init_5 (by decide) ?_
  refine x_newa (N' := 64) (a0 := (64, .inl (fun _ => 0))) (t0 := 2) (ty := .int) hx hb (hts (.arrayClass .int) (by decide +kernel)) rfl rfl hK hP hD hS hA (x_aI 64) (by decide) (by decide) (by decide) (Nat.le_of_ble_eq_true rfl) (Nat.le_of_ble_eq_true rfl) dX4_init_7 (fun q_1 H hP hD hS => ?_)
  have hP : va_P D vwCl [(h0, .inr (3, [.null, .null, .null, .null, .int 0, .int 0])), (q_1, .inl (y 2, 64, .inl (fun _ => 0)))] H := hP
  have hD : va_D A [(h0, .inr (3, [.null, .null, .null, .null, .int 0, .int 0])), (q_1, .inl (y 2, 64, .inl (fun _ => 0)))] := hD
  refine W.widen (k := 1) (n := 64) (Nat.le_of_ble_eq_true rfl) (Nat.le_of_ble_eq_true rfl) ?_
  refine va_putF (D := D) (ci := 3) (v := .ref q_1) (ty := (.array .int)) (C := RX4) (T := TX4) (N := 6) hx hb hts inX4 tyX4 tyX4_ok nmX4 hown hK hP hD hS 0 rfl rfl 0 (by decide) fl13 (fun _ h9 => h9) rfl hmn rfl (by decide +kernel) rfl rfl (Nat.le_of_ble_eq_true rfl) dX4_init_9 (fun H locs hP hD hS => ?_)
  have hP : va_P D vwCl [(h0, .inr (3, [.ref q_1, .null, .null, .null, .int 0, .int 0])), (q_1, .inl (y 2, 64, .inl (fun _ => 0)))] H := hP
  have hD : va_D A [(h0, .inr (3, [.ref q_1, .null, .null, .null, .int 0, .int 0])), (q_1, .inl (y 2, 64, .inl (fun _ => 0)))] := hD
  refine lv_aload_n hx hb dX4_init_12 rfl (lv_at hl 0 rfl) ?_
  refine lv_bipush (v := 84) hx hb dX4_init_13 (by decide) ?_
  refine x_newa (N' := 84) (a0 := (84, .inl (fun _ => 0))) (t0 := 2) (ty := .int) hx hb (hts (.arrayClass .int) (by decide +kernel)) rfl rfl hK hP hD hS hA (x_aI 84) (by decide) (by decide) (by decide) (Nat.le_of_ble_eq_true rfl) (Nat.le_of_ble_eq_true rfl) dX4_init_15 (fun q_2 H hP hD hS => ?_)
  have hP : va_P D vwCl [(h0, .inr (3, [.ref q_1, .null, .null, .null, .int 0, .int 0])), (q_1, .inl (y 2, 64, .inl (fun _ => 0))), (q_2, .inl (y 2, 84, .inl (fun _ => 0)))] H := hP
  have hD : va_D A [(h0, .inr (3, [.ref q_1, .null, .null, .null, .int 0, .int 0])), (q_1, .inl (y 2, 64, .inl (fun _ => 0))), (q_2, .inl (y 2, 84, .inl (fun _ => 0)))] := hD
  refine W.widen (k := 2) (n := 148) (Nat.le_of_ble_eq_true rfl) (Nat.le_of_ble_eq_true rfl) ?_
  refine va_putF (D := D) (ci := 3) (v := .ref q_2) (ty := (.array .int)) (C := RX4) (T := TX4) (N := 6) hx hb hts inX4 tyX4 tyX4_ok nmX4 hown hK hP hD hS 0 rfl rfl 1 (by decide) fl17 (fun _ h9 => h9) rfl hmn rfl (by decide +kernel) rfl rfl (Nat.le_of_ble_eq_true rfl) dX4_init_17 (fun H locs hP hD hS => ?_)
  have hP : va_P D vwCl [(h0, .inr (3, [.ref q_1, .ref q_2, .null, .null, .int 0, .int 0])), (q_1, .inl (y 2, 64, .inl (fun _ => 0))), (q_2, .inl (y 2, 84, .inl (fun _ => 0)))] H := hP
  have hD : va_D A [(h0, .inr (3, [.ref q_1, .ref q_2, .null, .null, .int 0, .int 0])), (q_1, .inl (y 2, 64, .inl (fun _ => 0))), (q_2, .inl (y 2, 84, .inl (fun _ => 0)))] := hD
  exact x_vret (u := (q_1, q_2)) hx hb hr trivial hP hD hK hS [0, 1, 2] rfl (by decide) dX4_init_20 hlocks hQ

def v_c_Program_init : List Cond := .code yX6_init cX6_init 1 none :: ([.fieldLink RX6 13 "SlopeRunner$Program" "places" "[I", .fieldLink RX6 17 "SlopeRunner$Program" "name" "[J", .fieldLink RX6 21 "SlopeRunner$Program" "slot" "[I", .fieldLink RX6 24 "SlopeRunner$Program" "number" "[I", .fieldLink RX6 27 "SlopeRunner$Program" "code" "[I", .fieldLink RX6 30 "SlopeRunner$Program" "aside" "[I", .methodLink RX6 7 objectInit, .instanceMethod objectInit, .code objectInit ⟨#[0xb1]⟩ 1 none, .arrayClass .int, .arrayClass .long] ++ wsX60)
set_option maxHeartbeats 4000000 in
set_option maxRecDepth 100000 in
theorem c_Program_init (l : Launch) (D : va_G) (y : Nat → ClassId) (sz : Nat) (h0 : Nat) : Met l yX6_init v_c_Program_init ({ frames := 1, cells := 6, slots := 1802, locals := 12 } : Room) (va_Pc [.ref h0] (xPre D (xT y) [(h0, .inr (5, [.int 0, .int 0, .int 0, .int 0, .int 0, .int 0, .null, .int 0, .null, .null, .null, .null, .null]))] sz)) (va_Qv (fun (_ : Nat × Nat × Nat × Nat × Nat × Nat) => True) (fun (u : Nat × Nat × Nat × Nat × Nat × Nat) => xB D (xT y) (va_A [(h0, .inr (5, [.int 0, .int 0, .int 0, .int 0, .int 0, .int 0, .null, .int 0, .null, .null, .null, .null, .null]))] sz) [(h0, .inr (5, [.int 0, .int 0, .int 0, .int 0, .int 0, .int 0, .ref u.1, .int 0, .ref u.2.1, .ref u.2.2.1, .ref u.2.2.2.1, .ref u.2.2.2.2.1, .ref u.2.2.2.2.2])), (u.1, .inl (y 2, 4, .inl (fun _ => 0))), (u.2.1, .inl (y 3, 24, .inr (.inl (fun _ => 0)))), (u.2.2.1, .inl (y 2, 24, .inl (fun _ => 0))), (u.2.2.2.1, .inl (y 2, 350, .inl (fun _ => 0))), (u.2.2.2.2.1, .inl (y 2, 700, .inl (fun _ => 0))), (u.2.2.2.2.2, .inl (y 2, 700, .inl (fun _ => 0)))]) (va_A [(h0, .inr (5, [.int 0, .int 0, .int 0, .int 0, .int 0, .int 0, .null, .int 0, .null, .null, .null, .null, .null]))] sz)) 6 1802 (va_A [(h0, .inr (5, [.int 0, .int 0, .int 0, .int 0, .int 0, .int 0, .null, .int 0, .null, .null, .null, .null, .null]))] sz) := by
  refine x_metv (cc := cX6_init) (maxL := 1) (by decide) rfl (Nat.le_of_ble_eq_true rfl) ?_
  intro p e s m below meth c A H locs Q hx hb hml hown hts hr hlocks hmn hA hP hK hD hS ls hl hQ
  have hl : lv_has ls 1 [(0, .ref h0)] := hl
  have fl13 := hts (.fieldLink RX6 13 "SlopeRunner$Program" "places" "[I") (by decide +kernel)
  have inX6 : ∀ w ∈ wsX60, w ∈ v_c_Program_init := (fun w h => List.mem_cons_of_mem _ (List.mem_append_right _ h))
  have fl17 := hts (.fieldLink RX6 17 "SlopeRunner$Program" "name" "[J") (by decide +kernel)
  have fl21 := hts (.fieldLink RX6 21 "SlopeRunner$Program" "slot" "[I") (by decide +kernel)
  have fl24 := hts (.fieldLink RX6 24 "SlopeRunner$Program" "number" "[I") (by decide +kernel)
  have fl27 := hts (.fieldLink RX6 27 "SlopeRunner$Program" "code" "[I") (by decide +kernel)
  have fl30 := hts (.fieldLink RX6 30 "SlopeRunner$Program" "aside" "[I") (by decide +kernel)
  refine lv_aload_n hx hb dX6_init_0 rfl (lv_at hl 0 rfl) ?_
  refine W.objInit hx hb hown (hts (.methodLink RX6 7 objectInit) (by decide +kernel)) (hts (.instanceMethod objectInit) (by decide +kernel)) (hts (.code objectInit ⟨#[0xb1]⟩ 1 none) (by decide +kernel)) rfl (by rw [hml]; exact hl.1) rfl dX6_init_1 (Nat.le_of_ble_eq_true rfl) (Nat.le_of_ble_eq_true rfl) ?_
  refine W.eq (g2 := F0 m 4 ls []) rfl ?_
  refine lv_aload_n hx hb dX6_init_4 rfl (lv_at hl 0 rfl) ?_
  refine lv_iconst (v := 4) hx hb dX6_init_5 (by decide) ?_
  refine x_newa (N' := 4) (a0 := (4, .inl (fun _ => 0))) (t0 := 2) (ty := .int) hx hb (hts (.arrayClass .int) (by decide +kernel)) rfl rfl hK hP hD hS hA (x_aI 4) (by decide) (by decide) (by decide) (Nat.le_of_ble_eq_true rfl) (Nat.le_of_ble_eq_true rfl) dX6_init_6 (fun q_1 H hP hD hS => ?_)
  have hP : va_P D vwCl [(h0, .inr (5, [.int 0, .int 0, .int 0, .int 0, .int 0, .int 0, .null, .int 0, .null, .null, .null, .null, .null])), (q_1, .inl (y 2, 4, .inl (fun _ => 0)))] H := hP
  have hD : va_D A [(h0, .inr (5, [.int 0, .int 0, .int 0, .int 0, .int 0, .int 0, .null, .int 0, .null, .null, .null, .null, .null])), (q_1, .inl (y 2, 4, .inl (fun _ => 0)))] := hD
  refine W.widen (k := 1) (n := 4) (Nat.le_of_ble_eq_true rfl) (Nat.le_of_ble_eq_true rfl) ?_
  refine va_putF (D := D) (ci := 5) (v := .ref q_1) (ty := (.array .int)) (C := RX6) (T := TX6) (N := 13) hx hb hts inX6 tyX6 tyX6_ok nmX6 hown hK hP hD hS 0 rfl rfl 6 (by decide) fl13 (fun _ h9 => h9) rfl hmn rfl (by decide +kernel) rfl rfl (Nat.le_of_ble_eq_true rfl) dX6_init_8 (fun H locs hP hD hS => ?_)
  have hP : va_P D vwCl [(h0, .inr (5, [.int 0, .int 0, .int 0, .int 0, .int 0, .int 0, .ref q_1, .int 0, .null, .null, .null, .null, .null])), (q_1, .inl (y 2, 4, .inl (fun _ => 0)))] H := hP
  have hD : va_D A [(h0, .inr (5, [.int 0, .int 0, .int 0, .int 0, .int 0, .int 0, .ref q_1, .int 0, .null, .null, .null, .null, .null])), (q_1, .inl (y 2, 4, .inl (fun _ => 0)))] := hD
  refine lv_aload_n hx hb dX6_init_11 rfl (lv_at hl 0 rfl) ?_
  refine lv_bipush (v := 24) hx hb dX6_init_12 (by decide) ?_
  refine x_newa (N' := 24) (a0 := (24, .inr (.inl (fun _ => 0)))) (t0 := 3) (ty := .long) hx hb (hts (.arrayClass .long) (by decide +kernel)) rfl rfl hK hP hD hS hA (x_aJ 24) (by decide) (by decide) (by decide) (Nat.le_of_ble_eq_true rfl) (Nat.le_of_ble_eq_true rfl) dX6_init_14 (fun q_2 H hP hD hS => ?_)
  have hP : va_P D vwCl [(h0, .inr (5, [.int 0, .int 0, .int 0, .int 0, .int 0, .int 0, .ref q_1, .int 0, .null, .null, .null, .null, .null])), (q_1, .inl (y 2, 4, .inl (fun _ => 0))), (q_2, .inl (y 3, 24, .inr (.inl (fun _ => 0))))] H := hP
  have hD : va_D A [(h0, .inr (5, [.int 0, .int 0, .int 0, .int 0, .int 0, .int 0, .ref q_1, .int 0, .null, .null, .null, .null, .null])), (q_1, .inl (y 2, 4, .inl (fun _ => 0))), (q_2, .inl (y 3, 24, .inr (.inl (fun _ => 0))))] := hD
  refine W.widen (k := 2) (n := 28) (Nat.le_of_ble_eq_true rfl) (Nat.le_of_ble_eq_true rfl) ?_
  refine va_putF (D := D) (ci := 5) (v := .ref q_2) (ty := (.array .long)) (C := RX6) (T := TX6) (N := 13) hx hb hts inX6 tyX6 tyX6_ok nmX6 hown hK hP hD hS 0 rfl rfl 8 (by decide) fl17 (fun _ h9 => h9) rfl hmn rfl (by decide +kernel) rfl rfl (Nat.le_of_ble_eq_true rfl) dX6_init_16 (fun H locs hP hD hS => ?_)
  have hP : va_P D vwCl [(h0, .inr (5, [.int 0, .int 0, .int 0, .int 0, .int 0, .int 0, .ref q_1, .int 0, .ref q_2, .null, .null, .null, .null])), (q_1, .inl (y 2, 4, .inl (fun _ => 0))), (q_2, .inl (y 3, 24, .inr (.inl (fun _ => 0))))] H := hP
  have hD : va_D A [(h0, .inr (5, [.int 0, .int 0, .int 0, .int 0, .int 0, .int 0, .ref q_1, .int 0, .ref q_2, .null, .null, .null, .null])), (q_1, .inl (y 2, 4, .inl (fun _ => 0))), (q_2, .inl (y 3, 24, .inr (.inl (fun _ => 0))))] := hD
  refine lv_aload_n hx hb dX6_init_19 rfl (lv_at hl 0 rfl) ?_
  refine lv_bipush (v := 24) hx hb dX6_init_20 (by decide) ?_
  refine x_newa (N' := 24) (a0 := (24, .inl (fun _ => 0))) (t0 := 2) (ty := .int) hx hb (hts (.arrayClass .int) (by decide +kernel)) rfl rfl hK hP hD hS hA (x_aI 24) (by decide) (by decide) (by decide) (Nat.le_of_ble_eq_true rfl) (Nat.le_of_ble_eq_true rfl) dX6_init_22 (fun q_3 H hP hD hS => ?_)
  have hP : va_P D vwCl [(h0, .inr (5, [.int 0, .int 0, .int 0, .int 0, .int 0, .int 0, .ref q_1, .int 0, .ref q_2, .null, .null, .null, .null])), (q_1, .inl (y 2, 4, .inl (fun _ => 0))), (q_2, .inl (y 3, 24, .inr (.inl (fun _ => 0)))), (q_3, .inl (y 2, 24, .inl (fun _ => 0)))] H := hP
  have hD : va_D A [(h0, .inr (5, [.int 0, .int 0, .int 0, .int 0, .int 0, .int 0, .ref q_1, .int 0, .ref q_2, .null, .null, .null, .null])), (q_1, .inl (y 2, 4, .inl (fun _ => 0))), (q_2, .inl (y 3, 24, .inr (.inl (fun _ => 0)))), (q_3, .inl (y 2, 24, .inl (fun _ => 0)))] := hD
  refine W.widen (k := 3) (n := 52) (Nat.le_of_ble_eq_true rfl) (Nat.le_of_ble_eq_true rfl) ?_
  refine va_putF (D := D) (ci := 5) (v := .ref q_3) (ty := (.array .int)) (C := RX6) (T := TX6) (N := 13) hx hb hts inX6 tyX6 tyX6_ok nmX6 hown hK hP hD hS 0 rfl rfl 9 (by decide) fl21 (fun _ h9 => h9) rfl hmn rfl (by decide +kernel) rfl rfl (Nat.le_of_ble_eq_true rfl) dX6_init_24 (fun H locs hP hD hS => ?_)
  have hP : va_P D vwCl [(h0, .inr (5, [.int 0, .int 0, .int 0, .int 0, .int 0, .int 0, .ref q_1, .int 0, .ref q_2, .ref q_3, .null, .null, .null])), (q_1, .inl (y 2, 4, .inl (fun _ => 0))), (q_2, .inl (y 3, 24, .inr (.inl (fun _ => 0)))), (q_3, .inl (y 2, 24, .inl (fun _ => 0)))] H := hP
  have hD : va_D A [(h0, .inr (5, [.int 0, .int 0, .int 0, .int 0, .int 0, .int 0, .ref q_1, .int 0, .ref q_2, .ref q_3, .null, .null, .null])), (q_1, .inl (y 2, 4, .inl (fun _ => 0))), (q_2, .inl (y 3, 24, .inr (.inl (fun _ => 0)))), (q_3, .inl (y 2, 24, .inl (fun _ => 0)))] := hD
  refine lv_aload_n hx hb dX6_init_27 rfl (lv_at hl 0 rfl) ?_
  refine lv_sipush (v := 350) hx hb dX6_init_28 (by decide) ?_
  refine x_newa (N' := 350) (a0 := (350, .inl (fun _ => 0))) (t0 := 2) (ty := .int) hx hb (hts (.arrayClass .int) (by decide +kernel)) rfl rfl hK hP hD hS hA (x_aI 350) (by decide) (by decide) (by decide) (Nat.le_of_ble_eq_true rfl) (Nat.le_of_ble_eq_true rfl) dX6_init_31 (fun q_4 H hP hD hS => ?_)
  have hP : va_P D vwCl [(h0, .inr (5, [.int 0, .int 0, .int 0, .int 0, .int 0, .int 0, .ref q_1, .int 0, .ref q_2, .ref q_3, .null, .null, .null])), (q_1, .inl (y 2, 4, .inl (fun _ => 0))), (q_2, .inl (y 3, 24, .inr (.inl (fun _ => 0)))), (q_3, .inl (y 2, 24, .inl (fun _ => 0))), (q_4, .inl (y 2, 350, .inl (fun _ => 0)))] H := hP
  have hD : va_D A [(h0, .inr (5, [.int 0, .int 0, .int 0, .int 0, .int 0, .int 0, .ref q_1, .int 0, .ref q_2, .ref q_3, .null, .null, .null])), (q_1, .inl (y 2, 4, .inl (fun _ => 0))), (q_2, .inl (y 3, 24, .inr (.inl (fun _ => 0)))), (q_3, .inl (y 2, 24, .inl (fun _ => 0))), (q_4, .inl (y 2, 350, .inl (fun _ => 0)))] := hD
  refine W.widen (k := 4) (n := 402) (Nat.le_of_ble_eq_true rfl) (Nat.le_of_ble_eq_true rfl) ?_
  refine va_putF (D := D) (ci := 5) (v := .ref q_4) (ty := (.array .int)) (C := RX6) (T := TX6) (N := 13) hx hb hts inX6 tyX6 tyX6_ok nmX6 hown hK hP hD hS 0 rfl rfl 10 (by decide) fl24 (fun _ h9 => h9) rfl hmn rfl (by decide +kernel) rfl rfl (Nat.le_of_ble_eq_true rfl) dX6_init_33 (fun H locs hP hD hS => ?_)
  have hP : va_P D vwCl [(h0, .inr (5, [.int 0, .int 0, .int 0, .int 0, .int 0, .int 0, .ref q_1, .int 0, .ref q_2, .ref q_3, .ref q_4, .null, .null])), (q_1, .inl (y 2, 4, .inl (fun _ => 0))), (q_2, .inl (y 3, 24, .inr (.inl (fun _ => 0)))), (q_3, .inl (y 2, 24, .inl (fun _ => 0))), (q_4, .inl (y 2, 350, .inl (fun _ => 0)))] H := hP
  have hD : va_D A [(h0, .inr (5, [.int 0, .int 0, .int 0, .int 0, .int 0, .int 0, .ref q_1, .int 0, .ref q_2, .ref q_3, .ref q_4, .null, .null])), (q_1, .inl (y 2, 4, .inl (fun _ => 0))), (q_2, .inl (y 3, 24, .inr (.inl (fun _ => 0)))), (q_3, .inl (y 2, 24, .inl (fun _ => 0))), (q_4, .inl (y 2, 350, .inl (fun _ => 0)))] := hD
  refine lv_aload_n hx hb dX6_init_36 rfl (lv_at hl 0 rfl) ?_
  refine lv_sipush (v := 700) hx hb dX6_init_37 (by decide) ?_
  refine x_newa (N' := 700) (a0 := (700, .inl (fun _ => 0))) (t0 := 2) (ty := .int) hx hb (hts (.arrayClass .int) (by decide +kernel)) rfl rfl hK hP hD hS hA (x_aI 700) (by decide) (by decide) (by decide) (Nat.le_of_ble_eq_true rfl) (Nat.le_of_ble_eq_true rfl) dX6_init_40 (fun q_5 H hP hD hS => ?_)
  have hP : va_P D vwCl [(h0, .inr (5, [.int 0, .int 0, .int 0, .int 0, .int 0, .int 0, .ref q_1, .int 0, .ref q_2, .ref q_3, .ref q_4, .null, .null])), (q_1, .inl (y 2, 4, .inl (fun _ => 0))), (q_2, .inl (y 3, 24, .inr (.inl (fun _ => 0)))), (q_3, .inl (y 2, 24, .inl (fun _ => 0))), (q_4, .inl (y 2, 350, .inl (fun _ => 0))), (q_5, .inl (y 2, 700, .inl (fun _ => 0)))] H := hP
  have hD : va_D A [(h0, .inr (5, [.int 0, .int 0, .int 0, .int 0, .int 0, .int 0, .ref q_1, .int 0, .ref q_2, .ref q_3, .ref q_4, .null, .null])), (q_1, .inl (y 2, 4, .inl (fun _ => 0))), (q_2, .inl (y 3, 24, .inr (.inl (fun _ => 0)))), (q_3, .inl (y 2, 24, .inl (fun _ => 0))), (q_4, .inl (y 2, 350, .inl (fun _ => 0))), (q_5, .inl (y 2, 700, .inl (fun _ => 0)))] := hD
  refine W.widen (k := 5) (n := 1102) (Nat.le_of_ble_eq_true rfl) (Nat.le_of_ble_eq_true rfl) ?_
  refine va_putF (D := D) (ci := 5) (v := .ref q_5) (ty := (.array .int)) (C := RX6) (T := TX6) (N := 13) hx hb hts inX6 tyX6 tyX6_ok nmX6 hown hK hP hD hS 0 rfl rfl 11 (by decide) fl27 (fun _ h9 => h9) rfl hmn rfl (by decide +kernel) rfl rfl (Nat.le_of_ble_eq_true rfl) dX6_init_42 (fun H locs hP hD hS => ?_)
  have hP : va_P D vwCl [(h0, .inr (5, [.int 0, .int 0, .int 0, .int 0, .int 0, .int 0, .ref q_1, .int 0, .ref q_2, .ref q_3, .ref q_4, .ref q_5, .null])), (q_1, .inl (y 2, 4, .inl (fun _ => 0))), (q_2, .inl (y 3, 24, .inr (.inl (fun _ => 0)))), (q_3, .inl (y 2, 24, .inl (fun _ => 0))), (q_4, .inl (y 2, 350, .inl (fun _ => 0))), (q_5, .inl (y 2, 700, .inl (fun _ => 0)))] H := hP
  have hD : va_D A [(h0, .inr (5, [.int 0, .int 0, .int 0, .int 0, .int 0, .int 0, .ref q_1, .int 0, .ref q_2, .ref q_3, .ref q_4, .ref q_5, .null])), (q_1, .inl (y 2, 4, .inl (fun _ => 0))), (q_2, .inl (y 3, 24, .inr (.inl (fun _ => 0)))), (q_3, .inl (y 2, 24, .inl (fun _ => 0))), (q_4, .inl (y 2, 350, .inl (fun _ => 0))), (q_5, .inl (y 2, 700, .inl (fun _ => 0)))] := hD
  refine lv_aload_n hx hb dX6_init_45 rfl (lv_at hl 0 rfl) ?_
  refine lv_sipush (v := 700) hx hb dX6_init_46 (by decide) ?_
  refine x_newa (N' := 700) (a0 := (700, .inl (fun _ => 0))) (t0 := 2) (ty := .int) hx hb (hts (.arrayClass .int) (by decide +kernel)) rfl rfl hK hP hD hS hA (x_aI 700) (by decide) (by decide) (by decide) (Nat.le_of_ble_eq_true rfl) (Nat.le_of_ble_eq_true rfl) dX6_init_49 (fun q_6 H hP hD hS => ?_)
  have hP : va_P D vwCl [(h0, .inr (5, [.int 0, .int 0, .int 0, .int 0, .int 0, .int 0, .ref q_1, .int 0, .ref q_2, .ref q_3, .ref q_4, .ref q_5, .null])), (q_1, .inl (y 2, 4, .inl (fun _ => 0))), (q_2, .inl (y 3, 24, .inr (.inl (fun _ => 0)))), (q_3, .inl (y 2, 24, .inl (fun _ => 0))), (q_4, .inl (y 2, 350, .inl (fun _ => 0))), (q_5, .inl (y 2, 700, .inl (fun _ => 0))), (q_6, .inl (y 2, 700, .inl (fun _ => 0)))] H := hP
  have hD : va_D A [(h0, .inr (5, [.int 0, .int 0, .int 0, .int 0, .int 0, .int 0, .ref q_1, .int 0, .ref q_2, .ref q_3, .ref q_4, .ref q_5, .null])), (q_1, .inl (y 2, 4, .inl (fun _ => 0))), (q_2, .inl (y 3, 24, .inr (.inl (fun _ => 0)))), (q_3, .inl (y 2, 24, .inl (fun _ => 0))), (q_4, .inl (y 2, 350, .inl (fun _ => 0))), (q_5, .inl (y 2, 700, .inl (fun _ => 0))), (q_6, .inl (y 2, 700, .inl (fun _ => 0)))] := hD
  refine W.widen (k := 6) (n := 1802) (Nat.le_of_ble_eq_true rfl) (Nat.le_of_ble_eq_true rfl) ?_
  refine va_putF (D := D) (ci := 5) (v := .ref q_6) (ty := (.array .int)) (C := RX6) (T := TX6) (N := 13) hx hb hts inX6 tyX6 tyX6_ok nmX6 hown hK hP hD hS 0 rfl rfl 12 (by decide) fl30 (fun _ h9 => h9) rfl hmn rfl (by decide +kernel) rfl rfl (Nat.le_of_ble_eq_true rfl) dX6_init_51 (fun H locs hP hD hS => ?_)
  have hP : va_P D vwCl [(h0, .inr (5, [.int 0, .int 0, .int 0, .int 0, .int 0, .int 0, .ref q_1, .int 0, .ref q_2, .ref q_3, .ref q_4, .ref q_5, .ref q_6])), (q_1, .inl (y 2, 4, .inl (fun _ => 0))), (q_2, .inl (y 3, 24, .inr (.inl (fun _ => 0)))), (q_3, .inl (y 2, 24, .inl (fun _ => 0))), (q_4, .inl (y 2, 350, .inl (fun _ => 0))), (q_5, .inl (y 2, 700, .inl (fun _ => 0))), (q_6, .inl (y 2, 700, .inl (fun _ => 0)))] H := hP
  have hD : va_D A [(h0, .inr (5, [.int 0, .int 0, .int 0, .int 0, .int 0, .int 0, .ref q_1, .int 0, .ref q_2, .ref q_3, .ref q_4, .ref q_5, .ref q_6])), (q_1, .inl (y 2, 4, .inl (fun _ => 0))), (q_2, .inl (y 3, 24, .inr (.inl (fun _ => 0)))), (q_3, .inl (y 2, 24, .inl (fun _ => 0))), (q_4, .inl (y 2, 350, .inl (fun _ => 0))), (q_5, .inl (y 2, 700, .inl (fun _ => 0))), (q_6, .inl (y 2, 700, .inl (fun _ => 0)))] := hD
  exact x_vret (u := (q_1, q_2, q_3, q_4, q_5, q_6)) hx hb hr trivial hP hD hK hS [0, 1, 2, 3, 4, 5, 6] rfl (by decide) dX6_init_54 hlocks hQ

def v_c_Slopes_init : List Cond := .code yX7_init cX7_init 1 none :: ([.fieldLink RX7 9 "SlopeRunner$Slopes" "fromOne" "[J", .fieldLink RX7 15 "SlopeRunner$Slopes" "fromOther" "[J", .fieldLink RX7 18 "SlopeRunner$Slopes" "fromBoth" "[J", .fieldLink RX7 21 "SlopeRunner$Slopes" "count" "[I", .fieldLink RX7 25 "SlopeRunner$Slopes" "hangs" "[Z", .methodLink RX7 1 objectInit, .instanceMethod objectInit, .code objectInit ⟨#[0xb1]⟩ 1 none, .arrayClass .long, .arrayClass .int, .arrayClass .boolean] ++ wsX70)
set_option maxHeartbeats 4000000 in
set_option maxRecDepth 100000 in
theorem c_Slopes_init (l : Launch) (D : va_G) (y : Nat → ClassId) (sz : Nat) (h0 : Nat) : Met l yX7_init v_c_Slopes_init ({ frames := 1, cells := 5, slots := 6795, locals := 12 } : Room) (va_Pc [.ref h0] (xPre D (xT y) [(h0, .inr (6, [.null, .null, .null, .null, .null]))] sz)) (va_Qv (fun (_ : Nat × Nat × Nat × Nat × Nat) => True) (fun (u : Nat × Nat × Nat × Nat × Nat) => xB D (xT y) (va_A [(h0, .inr (6, [.null, .null, .null, .null, .null]))] sz) [(h0, .inr (6, [.ref u.1, .ref u.2.1, .ref u.2.2.1, .ref u.2.2.2.1, .ref u.2.2.2.2])), (u.1, .inl (y 3, 1359, .inr (.inl (fun _ => 0)))), (u.2.1, .inl (y 3, 1359, .inr (.inl (fun _ => 0)))), (u.2.2.1, .inl (y 3, 1359, .inr (.inl (fun _ => 0)))), (u.2.2.2.1, .inl (y 2, 1359, .inl (fun _ => 0))), (u.2.2.2.2, .inl (y 4, 1359, .inl (fun _ => 0)))]) (va_A [(h0, .inr (6, [.null, .null, .null, .null, .null]))] sz)) 5 6795 (va_A [(h0, .inr (6, [.null, .null, .null, .null, .null]))] sz) := by
  refine x_metv (cc := cX7_init) (maxL := 1) (by decide) rfl (Nat.le_of_ble_eq_true rfl) ?_
  intro p e s m below meth c A H locs Q hx hb hml hown hts hr hlocks hmn hA hP hK hD hS ls hl hQ
  have hl : lv_has ls 1 [(0, .ref h0)] := hl
  have fl9 := hts (.fieldLink RX7 9 "SlopeRunner$Slopes" "fromOne" "[J") (by decide +kernel)
  have inX7 : ∀ w ∈ wsX70, w ∈ v_c_Slopes_init := (fun w h => List.mem_cons_of_mem _ (List.mem_append_right _ h))
  have fl15 := hts (.fieldLink RX7 15 "SlopeRunner$Slopes" "fromOther" "[J") (by decide +kernel)
  have fl18 := hts (.fieldLink RX7 18 "SlopeRunner$Slopes" "fromBoth" "[J") (by decide +kernel)
  have fl21 := hts (.fieldLink RX7 21 "SlopeRunner$Slopes" "count" "[I") (by decide +kernel)
  have fl25 := hts (.fieldLink RX7 25 "SlopeRunner$Slopes" "hangs" "[Z") (by decide +kernel)
  refine lv_aload_n hx hb dX7_init_0 rfl (lv_at hl 0 rfl) ?_
  refine W.objInit hx hb hown (hts (.methodLink RX7 1 objectInit) (by decide +kernel)) (hts (.instanceMethod objectInit) (by decide +kernel)) (hts (.code objectInit ⟨#[0xb1]⟩ 1 none) (by decide +kernel)) rfl (by rw [hml]; exact hl.1) rfl dX7_init_1 (Nat.le_of_ble_eq_true rfl) (Nat.le_of_ble_eq_true rfl) ?_
  refine W.eq (g2 := F0 m 4 ls []) rfl ?_
  refine lv_aload_n hx hb dX7_init_4 rfl (lv_at hl 0 rfl) ?_
  refine lv_sipush (v := 1359) hx hb dX7_init_5 (by decide) ?_
  refine x_newa (N' := 1359) (a0 := (1359, .inr (.inl (fun _ => 0)))) (t0 := 3) (ty := .long) hx hb (hts (.arrayClass .long) (by decide +kernel)) rfl rfl hK hP hD hS hA (x_aJ 1359) (by decide) (by decide) (by decide) (Nat.le_of_ble_eq_true rfl) (Nat.le_of_ble_eq_true rfl) dX7_init_8 (fun q_1 H hP hD hS => ?_)
  have hP : va_P D vwCl [(h0, .inr (6, [.null, .null, .null, .null, .null])), (q_1, .inl (y 3, 1359, .inr (.inl (fun _ => 0))))] H := hP
  have hD : va_D A [(h0, .inr (6, [.null, .null, .null, .null, .null])), (q_1, .inl (y 3, 1359, .inr (.inl (fun _ => 0))))] := hD
  refine W.widen (k := 1) (n := 1359) (Nat.le_of_ble_eq_true rfl) (Nat.le_of_ble_eq_true rfl) ?_
  refine va_putF (D := D) (ci := 6) (v := .ref q_1) (ty := (.array .long)) (C := RX7) (T := TX7) (N := 5) hx hb hts inX7 tyX7 tyX7_ok nmX7 hown hK hP hD hS 0 rfl rfl 0 (by decide) fl9 (fun _ h9 => h9) rfl hmn rfl (by decide +kernel) rfl rfl (Nat.le_of_ble_eq_true rfl) dX7_init_10 (fun H locs hP hD hS => ?_)
  have hP : va_P D vwCl [(h0, .inr (6, [.ref q_1, .null, .null, .null, .null])), (q_1, .inl (y 3, 1359, .inr (.inl (fun _ => 0))))] H := hP
  have hD : va_D A [(h0, .inr (6, [.ref q_1, .null, .null, .null, .null])), (q_1, .inl (y 3, 1359, .inr (.inl (fun _ => 0))))] := hD
  refine lv_aload_n hx hb dX7_init_13 rfl (lv_at hl 0 rfl) ?_
  refine lv_sipush (v := 1359) hx hb dX7_init_14 (by decide) ?_
  refine x_newa (N' := 1359) (a0 := (1359, .inr (.inl (fun _ => 0)))) (t0 := 3) (ty := .long) hx hb (hts (.arrayClass .long) (by decide +kernel)) rfl rfl hK hP hD hS hA (x_aJ 1359) (by decide) (by decide) (by decide) (Nat.le_of_ble_eq_true rfl) (Nat.le_of_ble_eq_true rfl) dX7_init_17 (fun q_2 H hP hD hS => ?_)
  have hP : va_P D vwCl [(h0, .inr (6, [.ref q_1, .null, .null, .null, .null])), (q_1, .inl (y 3, 1359, .inr (.inl (fun _ => 0)))), (q_2, .inl (y 3, 1359, .inr (.inl (fun _ => 0))))] H := hP
  have hD : va_D A [(h0, .inr (6, [.ref q_1, .null, .null, .null, .null])), (q_1, .inl (y 3, 1359, .inr (.inl (fun _ => 0)))), (q_2, .inl (y 3, 1359, .inr (.inl (fun _ => 0))))] := hD
  refine W.widen (k := 2) (n := 2718) (Nat.le_of_ble_eq_true rfl) (Nat.le_of_ble_eq_true rfl) ?_
  refine va_putF (D := D) (ci := 6) (v := .ref q_2) (ty := (.array .long)) (C := RX7) (T := TX7) (N := 5) hx hb hts inX7 tyX7 tyX7_ok nmX7 hown hK hP hD hS 0 rfl rfl 1 (by decide) fl15 (fun _ h9 => h9) rfl hmn rfl (by decide +kernel) rfl rfl (Nat.le_of_ble_eq_true rfl) dX7_init_19 (fun H locs hP hD hS => ?_)
  have hP : va_P D vwCl [(h0, .inr (6, [.ref q_1, .ref q_2, .null, .null, .null])), (q_1, .inl (y 3, 1359, .inr (.inl (fun _ => 0)))), (q_2, .inl (y 3, 1359, .inr (.inl (fun _ => 0))))] H := hP
  have hD : va_D A [(h0, .inr (6, [.ref q_1, .ref q_2, .null, .null, .null])), (q_1, .inl (y 3, 1359, .inr (.inl (fun _ => 0)))), (q_2, .inl (y 3, 1359, .inr (.inl (fun _ => 0))))] := hD
  refine lv_aload_n hx hb dX7_init_22 rfl (lv_at hl 0 rfl) ?_
  refine lv_sipush (v := 1359) hx hb dX7_init_23 (by decide) ?_
  refine x_newa (N' := 1359) (a0 := (1359, .inr (.inl (fun _ => 0)))) (t0 := 3) (ty := .long) hx hb (hts (.arrayClass .long) (by decide +kernel)) rfl rfl hK hP hD hS hA (x_aJ 1359) (by decide) (by decide) (by decide) (Nat.le_of_ble_eq_true rfl) (Nat.le_of_ble_eq_true rfl) dX7_init_26 (fun q_3 H hP hD hS => ?_)
  have hP : va_P D vwCl [(h0, .inr (6, [.ref q_1, .ref q_2, .null, .null, .null])), (q_1, .inl (y 3, 1359, .inr (.inl (fun _ => 0)))), (q_2, .inl (y 3, 1359, .inr (.inl (fun _ => 0)))), (q_3, .inl (y 3, 1359, .inr (.inl (fun _ => 0))))] H := hP
  have hD : va_D A [(h0, .inr (6, [.ref q_1, .ref q_2, .null, .null, .null])), (q_1, .inl (y 3, 1359, .inr (.inl (fun _ => 0)))), (q_2, .inl (y 3, 1359, .inr (.inl (fun _ => 0)))), (q_3, .inl (y 3, 1359, .inr (.inl (fun _ => 0))))] := hD
  refine W.widen (k := 3) (n := 4077) (Nat.le_of_ble_eq_true rfl) (Nat.le_of_ble_eq_true rfl) ?_
  refine va_putF (D := D) (ci := 6) (v := .ref q_3) (ty := (.array .long)) (C := RX7) (T := TX7) (N := 5) hx hb hts inX7 tyX7 tyX7_ok nmX7 hown hK hP hD hS 0 rfl rfl 2 (by decide) fl18 (fun _ h9 => h9) rfl hmn rfl (by decide +kernel) rfl rfl (Nat.le_of_ble_eq_true rfl) dX7_init_28 (fun H locs hP hD hS => ?_)
  have hP : va_P D vwCl [(h0, .inr (6, [.ref q_1, .ref q_2, .ref q_3, .null, .null])), (q_1, .inl (y 3, 1359, .inr (.inl (fun _ => 0)))), (q_2, .inl (y 3, 1359, .inr (.inl (fun _ => 0)))), (q_3, .inl (y 3, 1359, .inr (.inl (fun _ => 0))))] H := hP
  have hD : va_D A [(h0, .inr (6, [.ref q_1, .ref q_2, .ref q_3, .null, .null])), (q_1, .inl (y 3, 1359, .inr (.inl (fun _ => 0)))), (q_2, .inl (y 3, 1359, .inr (.inl (fun _ => 0)))), (q_3, .inl (y 3, 1359, .inr (.inl (fun _ => 0))))] := hD
  refine lv_aload_n hx hb dX7_init_31 rfl (lv_at hl 0 rfl) ?_
  refine lv_sipush (v := 1359) hx hb dX7_init_32 (by decide) ?_
  refine x_newa (N' := 1359) (a0 := (1359, .inl (fun _ => 0))) (t0 := 2) (ty := .int) hx hb (hts (.arrayClass .int) (by decide +kernel)) rfl rfl hK hP hD hS hA (x_aI 1359) (by decide) (by decide) (by decide) (Nat.le_of_ble_eq_true rfl) (Nat.le_of_ble_eq_true rfl) dX7_init_35 (fun q_4 H hP hD hS => ?_)
  have hP : va_P D vwCl [(h0, .inr (6, [.ref q_1, .ref q_2, .ref q_3, .null, .null])), (q_1, .inl (y 3, 1359, .inr (.inl (fun _ => 0)))), (q_2, .inl (y 3, 1359, .inr (.inl (fun _ => 0)))), (q_3, .inl (y 3, 1359, .inr (.inl (fun _ => 0)))), (q_4, .inl (y 2, 1359, .inl (fun _ => 0)))] H := hP
  have hD : va_D A [(h0, .inr (6, [.ref q_1, .ref q_2, .ref q_3, .null, .null])), (q_1, .inl (y 3, 1359, .inr (.inl (fun _ => 0)))), (q_2, .inl (y 3, 1359, .inr (.inl (fun _ => 0)))), (q_3, .inl (y 3, 1359, .inr (.inl (fun _ => 0)))), (q_4, .inl (y 2, 1359, .inl (fun _ => 0)))] := hD
  refine W.widen (k := 4) (n := 5436) (Nat.le_of_ble_eq_true rfl) (Nat.le_of_ble_eq_true rfl) ?_
  refine va_putF (D := D) (ci := 6) (v := .ref q_4) (ty := (.array .int)) (C := RX7) (T := TX7) (N := 5) hx hb hts inX7 tyX7 tyX7_ok nmX7 hown hK hP hD hS 0 rfl rfl 3 (by decide) fl21 (fun _ h9 => h9) rfl hmn rfl (by decide +kernel) rfl rfl (Nat.le_of_ble_eq_true rfl) dX7_init_37 (fun H locs hP hD hS => ?_)
  have hP : va_P D vwCl [(h0, .inr (6, [.ref q_1, .ref q_2, .ref q_3, .ref q_4, .null])), (q_1, .inl (y 3, 1359, .inr (.inl (fun _ => 0)))), (q_2, .inl (y 3, 1359, .inr (.inl (fun _ => 0)))), (q_3, .inl (y 3, 1359, .inr (.inl (fun _ => 0)))), (q_4, .inl (y 2, 1359, .inl (fun _ => 0)))] H := hP
  have hD : va_D A [(h0, .inr (6, [.ref q_1, .ref q_2, .ref q_3, .ref q_4, .null])), (q_1, .inl (y 3, 1359, .inr (.inl (fun _ => 0)))), (q_2, .inl (y 3, 1359, .inr (.inl (fun _ => 0)))), (q_3, .inl (y 3, 1359, .inr (.inl (fun _ => 0)))), (q_4, .inl (y 2, 1359, .inl (fun _ => 0)))] := hD
  refine lv_aload_n hx hb dX7_init_40 rfl (lv_at hl 0 rfl) ?_
  refine lv_sipush (v := 1359) hx hb dX7_init_41 (by decide) ?_
  refine x_newa (N' := 1359) (a0 := (1359, .inl (fun _ => 0))) (t0 := 4) (ty := .boolean) hx hb (hts (.arrayClass .boolean) (by decide +kernel)) rfl rfl hK hP hD hS hA (x_aZ 1359) (by decide) (by decide) (by decide) (Nat.le_of_ble_eq_true rfl) (Nat.le_of_ble_eq_true rfl) dX7_init_44 (fun q_5 H hP hD hS => ?_)
  have hP : va_P D vwCl [(h0, .inr (6, [.ref q_1, .ref q_2, .ref q_3, .ref q_4, .null])), (q_1, .inl (y 3, 1359, .inr (.inl (fun _ => 0)))), (q_2, .inl (y 3, 1359, .inr (.inl (fun _ => 0)))), (q_3, .inl (y 3, 1359, .inr (.inl (fun _ => 0)))), (q_4, .inl (y 2, 1359, .inl (fun _ => 0))), (q_5, .inl (y 4, 1359, .inl (fun _ => 0)))] H := hP
  have hD : va_D A [(h0, .inr (6, [.ref q_1, .ref q_2, .ref q_3, .ref q_4, .null])), (q_1, .inl (y 3, 1359, .inr (.inl (fun _ => 0)))), (q_2, .inl (y 3, 1359, .inr (.inl (fun _ => 0)))), (q_3, .inl (y 3, 1359, .inr (.inl (fun _ => 0)))), (q_4, .inl (y 2, 1359, .inl (fun _ => 0))), (q_5, .inl (y 4, 1359, .inl (fun _ => 0)))] := hD
  refine W.widen (k := 5) (n := 6795) (Nat.le_of_ble_eq_true rfl) (Nat.le_of_ble_eq_true rfl) ?_
  refine va_putF (D := D) (ci := 6) (v := .ref q_5) (ty := (.array .boolean)) (C := RX7) (T := TX7) (N := 5) hx hb hts inX7 tyX7 tyX7_ok nmX7 hown hK hP hD hS 0 rfl rfl 4 (by decide) fl25 (fun _ h9 => h9) rfl hmn rfl (by decide +kernel) rfl rfl (Nat.le_of_ble_eq_true rfl) dX7_init_46 (fun H locs hP hD hS => ?_)
  have hP : va_P D vwCl [(h0, .inr (6, [.ref q_1, .ref q_2, .ref q_3, .ref q_4, .ref q_5])), (q_1, .inl (y 3, 1359, .inr (.inl (fun _ => 0)))), (q_2, .inl (y 3, 1359, .inr (.inl (fun _ => 0)))), (q_3, .inl (y 3, 1359, .inr (.inl (fun _ => 0)))), (q_4, .inl (y 2, 1359, .inl (fun _ => 0))), (q_5, .inl (y 4, 1359, .inl (fun _ => 0)))] H := hP
  have hD : va_D A [(h0, .inr (6, [.ref q_1, .ref q_2, .ref q_3, .ref q_4, .ref q_5])), (q_1, .inl (y 3, 1359, .inr (.inl (fun _ => 0)))), (q_2, .inl (y 3, 1359, .inr (.inl (fun _ => 0)))), (q_3, .inl (y 3, 1359, .inr (.inl (fun _ => 0)))), (q_4, .inl (y 2, 1359, .inl (fun _ => 0))), (q_5, .inl (y 4, 1359, .inl (fun _ => 0)))] := hD
  exact x_vret (u := (q_1, q_2, q_3, q_4, q_5)) hx hb hr trivial hP hD hK hS [0, 1, 2, 3, 4, 5] rfl (by decide) dX7_init_49 hlocks hQ

def v_c_Tape_init : List Cond := .code yX8_init cX8_init 1 none :: ([.fieldLink RX8 11 "SlopeRunner$Tape" "value" "[J", .fieldLink RX8 15 "SlopeRunner$Tape" "kind" "[I", .fieldLink RX8 19 "SlopeRunner$Tape" "left" "[I", .fieldLink RX8 22 "SlopeRunner$Tape" "right" "[I", .fieldLink RX8 25 "SlopeRunner$Tape" "given" "[I", .fieldLink RX8 28 "SlopeRunner$Tape" "state" "I", .fieldLink RX8 34 "SlopeRunner$Tape" "nearest" "J", .methodLink RX8 5 objectInit, .instanceMethod objectInit, .code objectInit ⟨#[0xb1]⟩ 1 none, .arrayClass .long, .arrayClass .int] ++ wsX80)
set_option maxHeartbeats 4000000 in
set_option maxRecDepth 100000 in
theorem c_Tape_init (l : Launch) (D : va_G) (y : Nat → ClassId) (sz : Nat) (h0 : Nat) : Met l yX8_init v_c_Tape_init ({ frames := 1, cells := 5, slots := 5448, locals := 12 } : Room) (va_Pc [.ref h0] (xPre D (xT y) [(h0, .inr (7, [.null, .null, .null, .null, .null, .int 0, .int 0, .int 0, .int 0, .int 0, .int 0, .int 0, .long 0]))] sz)) (va_Qv (fun (_ : Nat × Nat × Nat × Nat × Nat) => True) (fun (u : Nat × Nat × Nat × Nat × Nat) => xB D (xT y) (va_A [(h0, .inr (7, [.null, .null, .null, .null, .null, .int 0, .int 0, .int 0, .int 0, .int 0, .int 0, .int 0, .long 0]))] sz) [(h0, .inr (7, [.ref u.1, .ref u.2.1, .ref u.2.2.1, .ref u.2.2.2.1, .ref u.2.2.2.2, .int (-1), .int 0, .int 0, .int 0, .int 0, .int 0, .int 0, .long 0])), (u.1, .inl (y 3, 1359, .inr (.inl (fun _ => 0)))), (u.2.1, .inl (y 2, 1359, .inl (fun _ => 0))), (u.2.2.1, .inl (y 2, 1359, .inl (fun _ => 0))), (u.2.2.2.1, .inl (y 2, 1359, .inl (fun _ => 0))), (u.2.2.2.2, .inl (y 2, 12, .inl (fun _ => 0)))]) (va_A [(h0, .inr (7, [.null, .null, .null, .null, .null, .int 0, .int 0, .int 0, .int 0, .int 0, .int 0, .int 0, .long 0]))] sz)) 5 5448 (va_A [(h0, .inr (7, [.null, .null, .null, .null, .null, .int 0, .int 0, .int 0, .int 0, .int 0, .int 0, .int 0, .long 0]))] sz) := by
  refine x_metv (cc := cX8_init) (maxL := 1) (by decide) rfl (Nat.le_of_ble_eq_true rfl) ?_
  intro p e s m below meth c A H locs Q hx hb hml hown hts hr hlocks hmn hA hP hK hD hS ls hl hQ
  have hl : lv_has ls 1 [(0, .ref h0)] := hl
  have fl11 := hts (.fieldLink RX8 11 "SlopeRunner$Tape" "value" "[J") (by decide +kernel)
  have inX8 : ∀ w ∈ wsX80, w ∈ v_c_Tape_init := (fun w h => List.mem_cons_of_mem _ (List.mem_append_right _ h))
  have fl15 := hts (.fieldLink RX8 15 "SlopeRunner$Tape" "kind" "[I") (by decide +kernel)
  have fl19 := hts (.fieldLink RX8 19 "SlopeRunner$Tape" "left" "[I") (by decide +kernel)
  have fl22 := hts (.fieldLink RX8 22 "SlopeRunner$Tape" "right" "[I") (by decide +kernel)
  have fl25 := hts (.fieldLink RX8 25 "SlopeRunner$Tape" "given" "[I") (by decide +kernel)
  have fl28 := hts (.fieldLink RX8 28 "SlopeRunner$Tape" "state" "I") (by decide +kernel)
  have fl34 := hts (.fieldLink RX8 34 "SlopeRunner$Tape" "nearest" "J") (by decide +kernel)
  refine lv_aload_n hx hb dX8_init_0 rfl (lv_at hl 0 rfl) ?_
  refine W.objInit hx hb hown (hts (.methodLink RX8 5 objectInit) (by decide +kernel)) (hts (.instanceMethod objectInit) (by decide +kernel)) (hts (.code objectInit ⟨#[0xb1]⟩ 1 none) (by decide +kernel)) rfl (by rw [hml]; exact hl.1) rfl dX8_init_1 (Nat.le_of_ble_eq_true rfl) (Nat.le_of_ble_eq_true rfl) ?_
  refine W.eq (g2 := F0 m 4 ls []) rfl ?_
  refine lv_aload_n hx hb dX8_init_4 rfl (lv_at hl 0 rfl) ?_
  refine lv_sipush (v := 1359) hx hb dX8_init_5 (by decide) ?_
  refine x_newa (N' := 1359) (a0 := (1359, .inr (.inl (fun _ => 0)))) (t0 := 3) (ty := .long) hx hb (hts (.arrayClass .long) (by decide +kernel)) rfl rfl hK hP hD hS hA (x_aJ 1359) (by decide) (by decide) (by decide) (Nat.le_of_ble_eq_true rfl) (Nat.le_of_ble_eq_true rfl) dX8_init_8 (fun q_1 H hP hD hS => ?_)
  have hP : va_P D vwCl [(h0, .inr (7, [.null, .null, .null, .null, .null, .int 0, .int 0, .int 0, .int 0, .int 0, .int 0, .int 0, .long 0])), (q_1, .inl (y 3, 1359, .inr (.inl (fun _ => 0))))] H := hP
  have hD : va_D A [(h0, .inr (7, [.null, .null, .null, .null, .null, .int 0, .int 0, .int 0, .int 0, .int 0, .int 0, .int 0, .long 0])), (q_1, .inl (y 3, 1359, .inr (.inl (fun _ => 0))))] := hD
  refine W.widen (k := 1) (n := 1359) (Nat.le_of_ble_eq_true rfl) (Nat.le_of_ble_eq_true rfl) ?_
  refine va_putF (D := D) (ci := 7) (v := .ref q_1) (ty := (.array .long)) (C := RX8) (T := TX8) (N := 13) hx hb hts inX8 tyX8 tyX8_ok nmX8 hown hK hP hD hS 0 rfl rfl 0 (by decide) fl11 (fun _ h9 => h9) rfl hmn rfl (by decide +kernel) rfl rfl (Nat.le_of_ble_eq_true rfl) dX8_init_10 (fun H locs hP hD hS => ?_)
  have hP : va_P D vwCl [(h0, .inr (7, [.ref q_1, .null, .null, .null, .null, .int 0, .int 0, .int 0, .int 0, .int 0, .int 0, .int 0, .long 0])), (q_1, .inl (y 3, 1359, .inr (.inl (fun _ => 0))))] H := hP
  have hD : va_D A [(h0, .inr (7, [.ref q_1, .null, .null, .null, .null, .int 0, .int 0, .int 0, .int 0, .int 0, .int 0, .int 0, .long 0])), (q_1, .inl (y 3, 1359, .inr (.inl (fun _ => 0))))] := hD
  refine lv_aload_n hx hb dX8_init_13 rfl (lv_at hl 0 rfl) ?_
  refine lv_sipush (v := 1359) hx hb dX8_init_14 (by decide) ?_
  refine x_newa (N' := 1359) (a0 := (1359, .inl (fun _ => 0))) (t0 := 2) (ty := .int) hx hb (hts (.arrayClass .int) (by decide +kernel)) rfl rfl hK hP hD hS hA (x_aI 1359) (by decide) (by decide) (by decide) (Nat.le_of_ble_eq_true rfl) (Nat.le_of_ble_eq_true rfl) dX8_init_17 (fun q_2 H hP hD hS => ?_)
  have hP : va_P D vwCl [(h0, .inr (7, [.ref q_1, .null, .null, .null, .null, .int 0, .int 0, .int 0, .int 0, .int 0, .int 0, .int 0, .long 0])), (q_1, .inl (y 3, 1359, .inr (.inl (fun _ => 0)))), (q_2, .inl (y 2, 1359, .inl (fun _ => 0)))] H := hP
  have hD : va_D A [(h0, .inr (7, [.ref q_1, .null, .null, .null, .null, .int 0, .int 0, .int 0, .int 0, .int 0, .int 0, .int 0, .long 0])), (q_1, .inl (y 3, 1359, .inr (.inl (fun _ => 0)))), (q_2, .inl (y 2, 1359, .inl (fun _ => 0)))] := hD
  refine W.widen (k := 2) (n := 2718) (Nat.le_of_ble_eq_true rfl) (Nat.le_of_ble_eq_true rfl) ?_
  refine va_putF (D := D) (ci := 7) (v := .ref q_2) (ty := (.array .int)) (C := RX8) (T := TX8) (N := 13) hx hb hts inX8 tyX8 tyX8_ok nmX8 hown hK hP hD hS 0 rfl rfl 1 (by decide) fl15 (fun _ h9 => h9) rfl hmn rfl (by decide +kernel) rfl rfl (Nat.le_of_ble_eq_true rfl) dX8_init_19 (fun H locs hP hD hS => ?_)
  have hP : va_P D vwCl [(h0, .inr (7, [.ref q_1, .ref q_2, .null, .null, .null, .int 0, .int 0, .int 0, .int 0, .int 0, .int 0, .int 0, .long 0])), (q_1, .inl (y 3, 1359, .inr (.inl (fun _ => 0)))), (q_2, .inl (y 2, 1359, .inl (fun _ => 0)))] H := hP
  have hD : va_D A [(h0, .inr (7, [.ref q_1, .ref q_2, .null, .null, .null, .int 0, .int 0, .int 0, .int 0, .int 0, .int 0, .int 0, .long 0])), (q_1, .inl (y 3, 1359, .inr (.inl (fun _ => 0)))), (q_2, .inl (y 2, 1359, .inl (fun _ => 0)))] := hD
  refine lv_aload_n hx hb dX8_init_22 rfl (lv_at hl 0 rfl) ?_
  refine lv_sipush (v := 1359) hx hb dX8_init_23 (by decide) ?_
  refine x_newa (N' := 1359) (a0 := (1359, .inl (fun _ => 0))) (t0 := 2) (ty := .int) hx hb (hts (.arrayClass .int) (by decide +kernel)) rfl rfl hK hP hD hS hA (x_aI 1359) (by decide) (by decide) (by decide) (Nat.le_of_ble_eq_true rfl) (Nat.le_of_ble_eq_true rfl) dX8_init_26 (fun q_3 H hP hD hS => ?_)
  have hP : va_P D vwCl [(h0, .inr (7, [.ref q_1, .ref q_2, .null, .null, .null, .int 0, .int 0, .int 0, .int 0, .int 0, .int 0, .int 0, .long 0])), (q_1, .inl (y 3, 1359, .inr (.inl (fun _ => 0)))), (q_2, .inl (y 2, 1359, .inl (fun _ => 0))), (q_3, .inl (y 2, 1359, .inl (fun _ => 0)))] H := hP
  have hD : va_D A [(h0, .inr (7, [.ref q_1, .ref q_2, .null, .null, .null, .int 0, .int 0, .int 0, .int 0, .int 0, .int 0, .int 0, .long 0])), (q_1, .inl (y 3, 1359, .inr (.inl (fun _ => 0)))), (q_2, .inl (y 2, 1359, .inl (fun _ => 0))), (q_3, .inl (y 2, 1359, .inl (fun _ => 0)))] := hD
  refine W.widen (k := 3) (n := 4077) (Nat.le_of_ble_eq_true rfl) (Nat.le_of_ble_eq_true rfl) ?_
  refine va_putF (D := D) (ci := 7) (v := .ref q_3) (ty := (.array .int)) (C := RX8) (T := TX8) (N := 13) hx hb hts inX8 tyX8 tyX8_ok nmX8 hown hK hP hD hS 0 rfl rfl 2 (by decide) fl19 (fun _ h9 => h9) rfl hmn rfl (by decide +kernel) rfl rfl (Nat.le_of_ble_eq_true rfl) dX8_init_28 (fun H locs hP hD hS => ?_)
  have hP : va_P D vwCl [(h0, .inr (7, [.ref q_1, .ref q_2, .ref q_3, .null, .null, .int 0, .int 0, .int 0, .int 0, .int 0, .int 0, .int 0, .long 0])), (q_1, .inl (y 3, 1359, .inr (.inl (fun _ => 0)))), (q_2, .inl (y 2, 1359, .inl (fun _ => 0))), (q_3, .inl (y 2, 1359, .inl (fun _ => 0)))] H := hP
  have hD : va_D A [(h0, .inr (7, [.ref q_1, .ref q_2, .ref q_3, .null, .null, .int 0, .int 0, .int 0, .int 0, .int 0, .int 0, .int 0, .long 0])), (q_1, .inl (y 3, 1359, .inr (.inl (fun _ => 0)))), (q_2, .inl (y 2, 1359, .inl (fun _ => 0))), (q_3, .inl (y 2, 1359, .inl (fun _ => 0)))] := hD
  refine lv_aload_n hx hb dX8_init_31 rfl (lv_at hl 0 rfl) ?_
  refine lv_sipush (v := 1359) hx hb dX8_init_32 (by decide) ?_
  refine x_newa (N' := 1359) (a0 := (1359, .inl (fun _ => 0))) (t0 := 2) (ty := .int) hx hb (hts (.arrayClass .int) (by decide +kernel)) rfl rfl hK hP hD hS hA (x_aI 1359) (by decide) (by decide) (by decide) (Nat.le_of_ble_eq_true rfl) (Nat.le_of_ble_eq_true rfl) dX8_init_35 (fun q_4 H hP hD hS => ?_)
  have hP : va_P D vwCl [(h0, .inr (7, [.ref q_1, .ref q_2, .ref q_3, .null, .null, .int 0, .int 0, .int 0, .int 0, .int 0, .int 0, .int 0, .long 0])), (q_1, .inl (y 3, 1359, .inr (.inl (fun _ => 0)))), (q_2, .inl (y 2, 1359, .inl (fun _ => 0))), (q_3, .inl (y 2, 1359, .inl (fun _ => 0))), (q_4, .inl (y 2, 1359, .inl (fun _ => 0)))] H := hP
  have hD : va_D A [(h0, .inr (7, [.ref q_1, .ref q_2, .ref q_3, .null, .null, .int 0, .int 0, .int 0, .int 0, .int 0, .int 0, .int 0, .long 0])), (q_1, .inl (y 3, 1359, .inr (.inl (fun _ => 0)))), (q_2, .inl (y 2, 1359, .inl (fun _ => 0))), (q_3, .inl (y 2, 1359, .inl (fun _ => 0))), (q_4, .inl (y 2, 1359, .inl (fun _ => 0)))] := hD
  refine W.widen (k := 4) (n := 5436) (Nat.le_of_ble_eq_true rfl) (Nat.le_of_ble_eq_true rfl) ?_
  refine va_putF (D := D) (ci := 7) (v := .ref q_4) (ty := (.array .int)) (C := RX8) (T := TX8) (N := 13) hx hb hts inX8 tyX8 tyX8_ok nmX8 hown hK hP hD hS 0 rfl rfl 3 (by decide) fl22 (fun _ h9 => h9) rfl hmn rfl (by decide +kernel) rfl rfl (Nat.le_of_ble_eq_true rfl) dX8_init_37 (fun H locs hP hD hS => ?_)
  have hP : va_P D vwCl [(h0, .inr (7, [.ref q_1, .ref q_2, .ref q_3, .ref q_4, .null, .int 0, .int 0, .int 0, .int 0, .int 0, .int 0, .int 0, .long 0])), (q_1, .inl (y 3, 1359, .inr (.inl (fun _ => 0)))), (q_2, .inl (y 2, 1359, .inl (fun _ => 0))), (q_3, .inl (y 2, 1359, .inl (fun _ => 0))), (q_4, .inl (y 2, 1359, .inl (fun _ => 0)))] H := hP
  have hD : va_D A [(h0, .inr (7, [.ref q_1, .ref q_2, .ref q_3, .ref q_4, .null, .int 0, .int 0, .int 0, .int 0, .int 0, .int 0, .int 0, .long 0])), (q_1, .inl (y 3, 1359, .inr (.inl (fun _ => 0)))), (q_2, .inl (y 2, 1359, .inl (fun _ => 0))), (q_3, .inl (y 2, 1359, .inl (fun _ => 0))), (q_4, .inl (y 2, 1359, .inl (fun _ => 0)))] := hD
  refine lv_aload_n hx hb dX8_init_40 rfl (lv_at hl 0 rfl) ?_
  refine lv_bipush (v := 12) hx hb dX8_init_41 (by decide) ?_
  refine x_newa (N' := 12) (a0 := (12, .inl (fun _ => 0))) (t0 := 2) (ty := .int) hx hb (hts (.arrayClass .int) (by decide +kernel)) rfl rfl hK hP hD hS hA (x_aI 12) (by decide) (by decide) (by decide) (Nat.le_of_ble_eq_true rfl) (Nat.le_of_ble_eq_true rfl) dX8_init_43 (fun q_5 H hP hD hS => ?_)
  have hP : va_P D vwCl [(h0, .inr (7, [.ref q_1, .ref q_2, .ref q_3, .ref q_4, .null, .int 0, .int 0, .int 0, .int 0, .int 0, .int 0, .int 0, .long 0])), (q_1, .inl (y 3, 1359, .inr (.inl (fun _ => 0)))), (q_2, .inl (y 2, 1359, .inl (fun _ => 0))), (q_3, .inl (y 2, 1359, .inl (fun _ => 0))), (q_4, .inl (y 2, 1359, .inl (fun _ => 0))), (q_5, .inl (y 2, 12, .inl (fun _ => 0)))] H := hP
  have hD : va_D A [(h0, .inr (7, [.ref q_1, .ref q_2, .ref q_3, .ref q_4, .null, .int 0, .int 0, .int 0, .int 0, .int 0, .int 0, .int 0, .long 0])), (q_1, .inl (y 3, 1359, .inr (.inl (fun _ => 0)))), (q_2, .inl (y 2, 1359, .inl (fun _ => 0))), (q_3, .inl (y 2, 1359, .inl (fun _ => 0))), (q_4, .inl (y 2, 1359, .inl (fun _ => 0))), (q_5, .inl (y 2, 12, .inl (fun _ => 0)))] := hD
  refine W.widen (k := 5) (n := 5448) (Nat.le_of_ble_eq_true rfl) (Nat.le_of_ble_eq_true rfl) ?_
  refine va_putF (D := D) (ci := 7) (v := .ref q_5) (ty := (.array .int)) (C := RX8) (T := TX8) (N := 13) hx hb hts inX8 tyX8 tyX8_ok nmX8 hown hK hP hD hS 0 rfl rfl 4 (by decide) fl25 (fun _ h9 => h9) rfl hmn rfl (by decide +kernel) rfl rfl (Nat.le_of_ble_eq_true rfl) dX8_init_45 (fun H locs hP hD hS => ?_)
  have hP : va_P D vwCl [(h0, .inr (7, [.ref q_1, .ref q_2, .ref q_3, .ref q_4, .ref q_5, .int 0, .int 0, .int 0, .int 0, .int 0, .int 0, .int 0, .long 0])), (q_1, .inl (y 3, 1359, .inr (.inl (fun _ => 0)))), (q_2, .inl (y 2, 1359, .inl (fun _ => 0))), (q_3, .inl (y 2, 1359, .inl (fun _ => 0))), (q_4, .inl (y 2, 1359, .inl (fun _ => 0))), (q_5, .inl (y 2, 12, .inl (fun _ => 0)))] H := hP
  have hD : va_D A [(h0, .inr (7, [.ref q_1, .ref q_2, .ref q_3, .ref q_4, .ref q_5, .int 0, .int 0, .int 0, .int 0, .int 0, .int 0, .int 0, .long 0])), (q_1, .inl (y 3, 1359, .inr (.inl (fun _ => 0)))), (q_2, .inl (y 2, 1359, .inl (fun _ => 0))), (q_3, .inl (y 2, 1359, .inl (fun _ => 0))), (q_4, .inl (y 2, 1359, .inl (fun _ => 0))), (q_5, .inl (y 2, 12, .inl (fun _ => 0)))] := hD
  refine lv_aload_n hx hb dX8_init_48 rfl (lv_at hl 0 rfl) ?_
  refine lv_iconst (v := (-1)) hx hb dX8_init_49 (by decide) ?_
  refine va_put (D := D) (ci := 7) (v := .int (-1)) (ty := .int) (C := RX8) (T := TX8) (N := 13) hx hb hts inX8 tyX8 tyX8_ok nmX8 hown hK hP hD hS 0 rfl rfl 5 (by decide) fl28 (fun _ h9 => h9) rfl (by decide +kernel) rfl rfl (Nat.le_of_ble_eq_true rfl) dX8_init_50 (fun H locs hP hD hS => ?_)
  have hP : va_P D vwCl [(h0, .inr (7, [.ref q_1, .ref q_2, .ref q_3, .ref q_4, .ref q_5, .int (-1), .int 0, .int 0, .int 0, .int 0, .int 0, .int 0, .long 0])), (q_1, .inl (y 3, 1359, .inr (.inl (fun _ => 0)))), (q_2, .inl (y 2, 1359, .inl (fun _ => 0))), (q_3, .inl (y 2, 1359, .inl (fun _ => 0))), (q_4, .inl (y 2, 1359, .inl (fun _ => 0))), (q_5, .inl (y 2, 12, .inl (fun _ => 0)))] H := hP
  have hD : va_D A [(h0, .inr (7, [.ref q_1, .ref q_2, .ref q_3, .ref q_4, .ref q_5, .int (-1), .int 0, .int 0, .int 0, .int 0, .int 0, .int 0, .long 0])), (q_1, .inl (y 3, 1359, .inr (.inl (fun _ => 0)))), (q_2, .inl (y 2, 1359, .inl (fun _ => 0))), (q_3, .inl (y 2, 1359, .inl (fun _ => 0))), (q_4, .inl (y 2, 1359, .inl (fun _ => 0))), (q_5, .inl (y 2, 12, .inl (fun _ => 0)))] := hD
  refine lv_aload_n hx hb dX8_init_53 rfl (lv_at hl 0 rfl) ?_
  refine lv_lconst (v := 0) hx hb dX8_init_54 (by decide) ?_
  refine va_put (D := D) (ci := 7) (v := .long 0) (ty := .long) (C := RX8) (T := TX8) (N := 13) hx hb hts inX8 tyX8 tyX8_ok nmX8 hown hK hP hD hS 0 rfl rfl 12 (by decide) fl34 (fun _ h9 => h9) rfl (by decide +kernel) rfl rfl (Nat.le_of_ble_eq_true rfl) dX8_init_55 (fun H locs hP hD hS => ?_)
  have hP : va_P D vwCl [(h0, .inr (7, [.ref q_1, .ref q_2, .ref q_3, .ref q_4, .ref q_5, .int (-1), .int 0, .int 0, .int 0, .int 0, .int 0, .int 0, .long 0])), (q_1, .inl (y 3, 1359, .inr (.inl (fun _ => 0)))), (q_2, .inl (y 2, 1359, .inl (fun _ => 0))), (q_3, .inl (y 2, 1359, .inl (fun _ => 0))), (q_4, .inl (y 2, 1359, .inl (fun _ => 0))), (q_5, .inl (y 2, 12, .inl (fun _ => 0)))] H := hP
  have hD : va_D A [(h0, .inr (7, [.ref q_1, .ref q_2, .ref q_3, .ref q_4, .ref q_5, .int (-1), .int 0, .int 0, .int 0, .int 0, .int 0, .int 0, .long 0])), (q_1, .inl (y 3, 1359, .inr (.inl (fun _ => 0)))), (q_2, .inl (y 2, 1359, .inl (fun _ => 0))), (q_3, .inl (y 2, 1359, .inl (fun _ => 0))), (q_4, .inl (y 2, 1359, .inl (fun _ => 0))), (q_5, .inl (y 2, 12, .inl (fun _ => 0)))] := hD
  exact x_vret (u := (q_1, q_2, q_3, q_4, q_5)) hx hb hr trivial hP hD hK hS [0, 1, 2, 3, 4, 5] rfl (by decide) dX8_init_58 hlocks hQ


