theorem x_dvX1 : ∀ j, j < 3 → defaultValue (tyX1 j) = vp_V [.null, .null, .int 0] j := by decide +kernel
theorem x_dvX2 : ∀ j, j < 7 → defaultValue (tyX2 j) = vp_V [.null, .null, .null, .null, .int 0, .int 0, .int 0] j := by decide +kernel
theorem x_dvX3 : ∀ j, j < 3 → defaultValue (tyX3 j) = vp_V [.null, .null, .int 0] j := by decide +kernel
theorem x_dvX4 : ∀ j, j < 6 → defaultValue (tyX4 j) = vp_V [.null, .null, .null, .null, .int 0, .int 0] j := by decide +kernel
theorem x_dvX5 : ∀ j, j < 8 → defaultValue (tyX5 j) = vp_V [.null, .null, .int 0, .int 0, .int 0, .int 0, .int 0, .int 0] j := by decide +kernel
theorem x_dvX6 : ∀ j, j < 13 → defaultValue (tyX6 j) = vp_V [.int 0, .int 0, .int 0, .int 0, .int 0, .int 0, .null, .int 0, .null, .null, .null, .null, .null] j := by decide +kernel
theorem x_dvX7 : ∀ j, j < 5 → defaultValue (tyX7 j) = vp_V [.null, .null, .null, .null, .null] j := by decide +kernel
theorem x_dvX8 : ∀ j, j < 13 → defaultValue (tyX8 j) = vp_V [.null, .null, .null, .null, .null, .int 0, .int 0, .int 0, .int 0, .int 0, .int 0, .int 0, .long 0] j := by decide +kernel
theorem x_dvX9 : ∀ j, j < 2 → defaultValue (tyX9 j) = vp_V [.null, .int 0] j := by decide +kernel
theorem x_dvX10 : ∀ j, j < 6 → defaultValue (tyX10 j) = vp_V [.null, .null, .null, .null, .int 0, .int 0] j := by decide +kernel
theorem x_dvX11 : ∀ j, j < 11 → defaultValue (tyX11 j) = vp_V [.null, .null, .null, .null, .null, .null, .null, .null, .null, .null, .null] j := by decide +kernel
theorem x_dvX12 : ∀ j, j < 85 → defaultValue (tyX12 j) = vp_V [.null, .int 0, .int 0, .int 0, .int 0, .int 0, .int 0, .int 0, .int 0, .null, .null, .null, .null, .null, .null, .null, .null, .null, .null, .null, .null, .null, .null, .int 0, .null, .null, .null, .null, .null, .int 0, .null, .int 0, .int 0, .int 0, .null, .null, .null, .null, .null, .int 0, .int 0, .null, .long 0, .long 0, .int 0, .null, .null, .int 0, .int 0, .null, .null, .null, .null, .null, .int 0, .null, .null, .null, .null, .null, .null, .null, .null, .null, .null, .null, .null, .null, .int 0, .long 0, .long 0, .null, .null, .int 0, .null, .null, .null, .null, .int 0, .int 0, .null, .null, .int 0, .null, .null] j := by decide +kernel
theorem dX10_init_0 : decode cX10_init 0 = .ok (.aload_n 0, 1) := by decide +kernel
theorem dX10_init_1 : decode cX10_init 1 = .ok (.invokespecial 1, 3) := by decide +kernel
theorem dX10_init_4 : decode cX10_init 4 = .ok (.aload_n 0, 1) := by decide +kernel
theorem dX10_init_5 : decode cX10_init 5 = .ok (.bipush 14, 2) := by decide +kernel
theorem dX10_init_7 : decode cX10_init 7 = .ok (.newarray .long, 2) := by decide +kernel
theorem dX10_init_9 : decode cX10_init 9 = .ok (.putfield 9, 3) := by decide +kernel
theorem dX10_init_12 : decode cX10_init 12 = .ok (.aload_n 0, 1) := by decide +kernel
theorem dX10_init_13 : decode cX10_init 13 = .ok (.sipush 700, 3) := by decide +kernel
theorem dX10_init_16 : decode cX10_init 16 = .ok (.newarray .int, 2) := by decide +kernel
theorem dX10_init_18 : decode cX10_init 18 = .ok (.putfield 15, 3) := by decide +kernel
theorem dX10_init_21 : decode cX10_init 21 = .ok (.aload_n 0, 1) := by decide +kernel
theorem dX10_init_22 : decode cX10_init 22 = .ok (.sipush 700, 3) := by decide +kernel
theorem dX10_init_25 : decode cX10_init 25 = .ok (.newarray .int, 2) := by decide +kernel
theorem dX10_init_27 : decode cX10_init 27 = .ok (.putfield 19, 3) := by decide +kernel
theorem dX10_init_30 : decode cX10_init 30 = .ok (.aload_n 0, 1) := by decide +kernel
theorem dX10_init_31 : decode cX10_init 31 = .ok (.sipush 700, 3) := by decide +kernel
theorem dX10_init_34 : decode cX10_init 34 = .ok (.newarray .long, 2) := by decide +kernel
theorem dX10_init_36 : decode cX10_init 36 = .ok (.putfield 22, 3) := by decide +kernel
theorem dX10_init_39 : decode cX10_init 39 = .ok (.iconst 0, 1) := by decide +kernel
theorem dX10_init_40 : decode cX10_init 40 = .ok (.istore_n 1, 1) := by decide +kernel
theorem dX10_init_41 : decode cX10_init 41 = .ok (.iconst 0, 1) := by decide +kernel
theorem dX10_init_42 : decode cX10_init 42 = .ok (.istore_n 2, 1) := by decide +kernel
theorem dX10_init_43 : decode cX10_init 43 = .ok (.iload_n 2, 1) := by decide +kernel
theorem dX10_init_44 : decode cX10_init 44 = .ok (.ldc 25, 2) := by decide +kernel
theorem dX10_init_46 : decode cX10_init 46 = .ok (.invokevirtual 27, 3) := by decide +kernel
theorem dX10_init_49 : decode cX10_init 49 = .ok (.if_icmp .ge 53, 3) := by decide +kernel
theorem dX10_init_52 : decode cX10_init 52 = .ok (.iload_n 1, 1) := by decide +kernel
theorem dX10_init_53 : decode cX10_init 53 = .ok (.bipush 14, 2) := by decide +kernel
theorem dX10_init_55 : decode cX10_init 55 = .ok (.if_icmp .ge 47, 3) := by decide +kernel
theorem dX10_init_58 : decode cX10_init 58 = .ok (.ldc 25, 2) := by decide +kernel
theorem dX10_init_60 : decode cX10_init 60 = .ok (.iload_n 2, 1) := by decide +kernel
theorem dX10_init_61 : decode cX10_init 61 = .ok (.invokevirtual 33, 3) := by decide +kernel
theorem dX10_init_64 : decode cX10_init 64 = .ok (.bipush 32, 2) := by decide +kernel
theorem dX10_init_66 : decode cX10_init 66 = .ok (.if_icmp .ne 9, 3) := by decide +kernel
theorem dX10_init_69 : decode cX10_init 69 = .ok (.iinc 1 1, 3) := by decide +kernel
theorem dX10_init_72 : decode cX10_init 72 = .ok (.goto 24, 3) := by decide +kernel
theorem dX10_init_75 : decode cX10_init 75 = .ok (.aload_n 0, 1) := by decide +kernel
theorem dX10_init_76 : decode cX10_init 76 = .ok (.getfield 9, 3) := by decide +kernel
theorem dX10_init_79 : decode cX10_init 79 = .ok (.iload_n 1, 1) := by decide +kernel
theorem dX10_init_80 : decode cX10_init 80 = .ok (.aload_n 0, 1) := by decide +kernel
theorem dX10_init_81 : decode cX10_init 81 = .ok (.getfield 9, 3) := by decide +kernel
theorem dX10_init_84 : decode cX10_init 84 = .ok (.iload_n 1, 1) := by decide +kernel
theorem dX10_init_85 : decode cX10_init 85 = .ok (.laload, 1) := by decide +kernel
theorem dX10_init_86 : decode cX10_init 86 = .ok (.ldc 25, 2) := by decide +kernel
theorem dX10_init_88 : decode cX10_init 88 = .ok (.iload_n 2, 1) := by decide +kernel
theorem dX10_init_89 : decode cX10_init 89 = .ok (.invokevirtual 33, 3) := by decide +kernel
theorem dX10_init_92 : decode cX10_init 92 = .ok (.invokestatic 37, 3) := by decide +kernel
theorem dX10_init_95 : decode cX10_init 95 = .ok (.lastore, 1) := by decide +kernel
theorem dX10_init_96 : decode cX10_init 96 = .ok (.iinc 2 1, 3) := by decide +kernel
theorem dX10_init_99 : decode cX10_init 99 = .ok (.goto (-56), 3) := by decide +kernel
theorem dX10_init_102 : decode cX10_init 102 = .ok (.return_, 1) := by decide +kernel
theorem dX5_init_0 : decode cX5_init 0 = .ok (.aload_n 0, 1) := by decide +kernel
theorem dX5_init_1 : decode cX5_init 1 = .ok (.invokespecial 3, 3) := by decide +kernel
theorem dX5_init_4 : decode cX5_init 4 = .ok (.aload_n 0, 1) := by decide +kernel
theorem dX5_init_5 : decode cX5_init 5 = .ok (.new 9, 3) := by decide +kernel
theorem dX5_init_8 : decode cX5_init 8 = .ok (.dup, 1) := by decide +kernel
theorem dX5_init_9 : decode cX5_init 9 = .ok (.invokespecial 11, 3) := by decide +kernel
theorem dX5_init_12 : decode cX5_init 12 = .ok (.putfield 12, 3) := by decide +kernel
theorem dX5_init_15 : decode cX5_init 15 = .ok (.aload_n 0, 1) := by decide +kernel
theorem dX5_init_16 : decode cX5_init 16 = .ok (.iconst (-1), 1) := by decide +kernel
theorem dX5_init_17 : decode cX5_init 17 = .ok (.putfield 18, 3) := by decide +kernel
theorem dX5_init_20 : decode cX5_init 20 = .ok (.return_, 1) := by decide +kernel
def v_c_Tokens_init : List Cond := .code yX10_init cX10_init 3 none :: ([.fieldLink RX10 9 "SlopeRunner$Tokens" "own" "[J", .fieldLink RX10 15 "SlopeRunner$Tokens" "kind" "[I", .fieldLink RX10 19 "SlopeRunner$Tokens" "start" "[I", .fieldLink RX10 22 "SlopeRunner$Tokens" "worth" "[J", .methodLink RX10 1 objectInit, .instanceMethod objectInit, .code objectInit ⟨#[0xb1]⟩ 1 none, .arrayClass .long, .arrayClass .int] ++ ((wsV RX10 27 RJ0 yJ0_length_8abf5 v_c_slength) ++ ((wsV RX10 33 RJ0 yJ0_charAt_5068e v_c_scharAt) ++ ((wsS RX10 37 yX10_joined v_c_joined) ++ wsX100))))
theorem g_c_Tokens_init_0 : GoodIn v_c_Tokens_init (wsV RX10 27 RJ0 yJ0_length_8abf5 v_c_slength) := goodIn_sub (fun w h => List.mem_cons_of_mem _ (List.mem_append_right _ (List.mem_append_left _ h))) (by decide +kernel)
theorem g_c_Tokens_init_1 : GoodIn v_c_Tokens_init (wsV RX10 33 RJ0 yJ0_charAt_5068e v_c_scharAt) := goodIn_sub (fun w h => List.mem_cons_of_mem _ (List.mem_append_right _ (List.mem_append_right _ (List.mem_append_left _ h)))) (by decide +kernel)
theorem g_c_Tokens_init_2 : GoodIn v_c_Tokens_init (wsS RX10 37 yX10_joined v_c_joined) := goodIn_sub (fun w h => List.mem_cons_of_mem _ (List.mem_append_right _ (List.mem_append_right _ (List.mem_append_right _ (List.mem_append_left _ h))))) (by decide +kernel)
set_option maxHeartbeats 4000000 in
set_option maxRecDepth 100000 in
theorem c_Tokens_init (l : Launch) (D : va_G) (y : Nat → ClassId) (sz : Nat) (a9 v9 : Nat) (o9 : Option Nat) (h0 : Nat) : Met l yX10_init v_c_Tokens_init ({ frames := 4, cells := 4, slots := 2114, locals := 85 } : Room) (va_Pc [.ref h0] (fun U => xE a9 v9 o9 (va_A [(h0, .inr (9, [.null, .null, .null, .null, .int 0, .int 0]))] sz) U ∧ xPre D (xT y) [(h0, .inr (9, [.null, .null, .null, .null, .int 0, .int 0]))] sz U)) (va_Qv (fun (_ : Nat × Nat × Nat × Nat × (Nat → Int64)) => True) (fun (u : Nat × Nat × Nat × Nat × (Nat → Int64)) => xB D (xT y) (va_A [(h0, .inr (9, [.null, .null, .null, .null, .int 0, .int 0]))] sz) [(h0, .inr (9, [.ref u.1, .ref u.2.1, .ref u.2.2.1, .ref u.2.2.2.1, .int 0, .int 0])), (u.1, .inl (y 3, 14, .inr (.inl u.2.2.2.2))), (u.2.1, .inl (y 2, 700, .inl (fun _ => 0))), (u.2.2.1, .inl (y 2, 700, .inl (fun _ => 0))), (u.2.2.2.1, .inl (y 3, 700, .inr (.inl (fun _ => 0))))]) (va_A [(h0, .inr (9, [.null, .null, .null, .null, .int 0, .int 0]))] sz)) 4 2114 (va_A [(h0, .inr (9, [.null, .null, .null, .null, .int 0, .int 0]))] sz) := by
  refine x_metvE (cc := cX10_init) (maxL := 3) (by decide) rfl (Nat.le_of_ble_eq_true rfl) ?_
  intro p e s m below meth c A H locs Q hx hb hml hown hts hr hlocks hmn hA hP hK hD hS ls hl hQ hE
  have hl : lv_has ls 3 [(0, .ref h0)] := hl
  have fl9 := hts (.fieldLink RX10 9 "SlopeRunner$Tokens" "own" "[J") (List.mem_of_getElem? (i := 1) rfl)
  have inX10 : ∀ w ∈ wsX100, w ∈ v_c_Tokens_init := (fun w h => List.mem_cons_of_mem _ (List.mem_append_right _ (List.mem_append_right _ (List.mem_append_right _ (List.mem_append_right _ h)))))
  have fl15 := hts (.fieldLink RX10 15 "SlopeRunner$Tokens" "kind" "[I") (List.mem_of_getElem? (i := 2) rfl)
  have fl19 := hts (.fieldLink RX10 19 "SlopeRunner$Tokens" "start" "[I") (List.mem_of_getElem? (i := 3) rfl)
  have fl22 := hts (.fieldLink RX10 22 "SlopeRunner$Tokens" "worth" "[J") (List.mem_of_getElem? (i := 4) rfl)
  refine lv_aload_n hx hb dX10_init_0 rfl (lv_at hl 0 rfl) ?_
  refine W.objInit hx hb hown (hts (.methodLink RX10 1 objectInit) (List.mem_of_getElem? (i := 5) rfl)) (hts (.instanceMethod objectInit) (List.mem_of_getElem? (i := 6) rfl)) (hts (.code objectInit ⟨#[0xb1]⟩ 1 none) (List.mem_of_getElem? (i := 7) rfl)) rfl (by rw [hml]; exact hl.1) rfl dX10_init_1 (Nat.le_of_ble_eq_true rfl) (Nat.le_of_ble_eq_true rfl) ?_
  refine W.eq (g2 := F0 m 4 ls []) rfl ?_
  refine lv_aload_n hx hb dX10_init_4 rfl (lv_at hl 0 rfl) ?_
  refine lv_bipush (v := 14) hx hb dX10_init_5 (by decide) ?_
  refine x_newa (N' := 14) (a0 := (14, .inr (.inl (fun _ => 0)))) (t0 := 3) (ty := .long) hx hb (hts (.arrayClass .long) (List.mem_of_getElem? (i := 8) rfl)) rfl rfl hK hP hD hS hA (x_aJ 14) (by decide) (by decide) (by decide) (Nat.le_of_ble_eq_true rfl) (Nat.le_of_ble_eq_true rfl) dX10_init_7 (fun q_1 H hP hD hS => ?_)
  have hP : va_P D vwCl [(h0, .inr (9, [.null, .null, .null, .null, .int 0, .int 0])), (q_1, .inl (y 3, 14, .inr (.inl (fun _ => 0))))] H := hP
  have hD : va_D A [(h0, .inr (9, [.null, .null, .null, .null, .int 0, .int 0])), (q_1, .inl (y 3, 14, .inr (.inl (fun _ => 0))))] := hD
  refine W.widen (k := 1) (n := 14) (Nat.le_of_ble_eq_true rfl) (Nat.le_of_ble_eq_true rfl) ?_
  refine va_putF (D := D) (ci := 9) (v := .ref q_1) (ty := (.array .long)) (C := RX10) (T := TX10) (N := 6) hx hb hts inX10 tyX10 tyX10_ok nmX10 hown hK hP hD hS 0 rfl rfl 0 (by decide) fl9 (fun _ h9 => h9) rfl hmn rfl (by decide +kernel) rfl rfl (Nat.le_of_ble_eq_true rfl) dX10_init_9 (fun H locs hP hD hS => ?_)
  have hP : va_P D vwCl [(h0, .inr (9, [.ref q_1, .null, .null, .null, .int 0, .int 0])), (q_1, .inl (y 3, 14, .inr (.inl (fun _ => 0))))] H := hP
  have hD : va_D A [(h0, .inr (9, [.ref q_1, .null, .null, .null, .int 0, .int 0])), (q_1, .inl (y 3, 14, .inr (.inl (fun _ => 0))))] := hD
  refine lv_aload_n hx hb dX10_init_12 rfl (lv_at hl 0 rfl) ?_
  refine lv_sipush (v := 700) hx hb dX10_init_13 (by decide) ?_
  refine x_newa (N' := 700) (a0 := (700, .inl (fun _ => 0))) (t0 := 2) (ty := .int) hx hb (hts (.arrayClass .int) (List.mem_of_getElem? (i := 9) rfl)) rfl rfl hK hP hD hS hA (x_aI 700) (by decide) (by decide) (by decide) (Nat.le_of_ble_eq_true rfl) (Nat.le_of_ble_eq_true rfl) dX10_init_16 (fun q_2 H hP hD hS => ?_)
  have hP : va_P D vwCl [(h0, .inr (9, [.ref q_1, .null, .null, .null, .int 0, .int 0])), (q_1, .inl (y 3, 14, .inr (.inl (fun _ => 0)))), (q_2, .inl (y 2, 700, .inl (fun _ => 0)))] H := hP
  have hD : va_D A [(h0, .inr (9, [.ref q_1, .null, .null, .null, .int 0, .int 0])), (q_1, .inl (y 3, 14, .inr (.inl (fun _ => 0)))), (q_2, .inl (y 2, 700, .inl (fun _ => 0)))] := hD
  refine W.widen (k := 2) (n := 714) (Nat.le_of_ble_eq_true rfl) (Nat.le_of_ble_eq_true rfl) ?_
  refine va_putF (D := D) (ci := 9) (v := .ref q_2) (ty := (.array .int)) (C := RX10) (T := TX10) (N := 6) hx hb hts inX10 tyX10 tyX10_ok nmX10 hown hK hP hD hS 0 rfl rfl 1 (by decide) fl15 (fun _ h9 => h9) rfl hmn rfl (by decide +kernel) rfl rfl (Nat.le_of_ble_eq_true rfl) dX10_init_18 (fun H locs hP hD hS => ?_)
  have hP : va_P D vwCl [(h0, .inr (9, [.ref q_1, .ref q_2, .null, .null, .int 0, .int 0])), (q_1, .inl (y 3, 14, .inr (.inl (fun _ => 0)))), (q_2, .inl (y 2, 700, .inl (fun _ => 0)))] H := hP
  have hD : va_D A [(h0, .inr (9, [.ref q_1, .ref q_2, .null, .null, .int 0, .int 0])), (q_1, .inl (y 3, 14, .inr (.inl (fun _ => 0)))), (q_2, .inl (y 2, 700, .inl (fun _ => 0)))] := hD
  refine lv_aload_n hx hb dX10_init_21 rfl (lv_at hl 0 rfl) ?_
  refine lv_sipush (v := 700) hx hb dX10_init_22 (by decide) ?_
  refine x_newa (N' := 700) (a0 := (700, .inl (fun _ => 0))) (t0 := 2) (ty := .int) hx hb (hts (.arrayClass .int) (List.mem_of_getElem? (i := 9) rfl)) rfl rfl hK hP hD hS hA (x_aI 700) (by decide) (by decide) (by decide) (Nat.le_of_ble_eq_true rfl) (Nat.le_of_ble_eq_true rfl) dX10_init_25 (fun q_3 H hP hD hS => ?_)
  have hP : va_P D vwCl [(h0, .inr (9, [.ref q_1, .ref q_2, .null, .null, .int 0, .int 0])), (q_1, .inl (y 3, 14, .inr (.inl (fun _ => 0)))), (q_2, .inl (y 2, 700, .inl (fun _ => 0))), (q_3, .inl (y 2, 700, .inl (fun _ => 0)))] H := hP
  have hD : va_D A [(h0, .inr (9, [.ref q_1, .ref q_2, .null, .null, .int 0, .int 0])), (q_1, .inl (y 3, 14, .inr (.inl (fun _ => 0)))), (q_2, .inl (y 2, 700, .inl (fun _ => 0))), (q_3, .inl (y 2, 700, .inl (fun _ => 0)))] := hD
  refine W.widen (k := 3) (n := 1414) (Nat.le_of_ble_eq_true rfl) (Nat.le_of_ble_eq_true rfl) ?_
  refine va_putF (D := D) (ci := 9) (v := .ref q_3) (ty := (.array .int)) (C := RX10) (T := TX10) (N := 6) hx hb hts inX10 tyX10 tyX10_ok nmX10 hown hK hP hD hS 0 rfl rfl 2 (by decide) fl19 (fun _ h9 => h9) rfl hmn rfl (by decide +kernel) rfl rfl (Nat.le_of_ble_eq_true rfl) dX10_init_27 (fun H locs hP hD hS => ?_)
  have hP : va_P D vwCl [(h0, .inr (9, [.ref q_1, .ref q_2, .ref q_3, .null, .int 0, .int 0])), (q_1, .inl (y 3, 14, .inr (.inl (fun _ => 0)))), (q_2, .inl (y 2, 700, .inl (fun _ => 0))), (q_3, .inl (y 2, 700, .inl (fun _ => 0)))] H := hP
  have hD : va_D A [(h0, .inr (9, [.ref q_1, .ref q_2, .ref q_3, .null, .int 0, .int 0])), (q_1, .inl (y 3, 14, .inr (.inl (fun _ => 0)))), (q_2, .inl (y 2, 700, .inl (fun _ => 0))), (q_3, .inl (y 2, 700, .inl (fun _ => 0)))] := hD
  refine lv_aload_n hx hb dX10_init_30 rfl (lv_at hl 0 rfl) ?_
  refine lv_sipush (v := 700) hx hb dX10_init_31 (by decide) ?_
  refine x_newa (N' := 700) (a0 := (700, .inr (.inl (fun _ => 0)))) (t0 := 3) (ty := .long) hx hb (hts (.arrayClass .long) (List.mem_of_getElem? (i := 8) rfl)) rfl rfl hK hP hD hS hA (x_aJ 700) (by decide) (by decide) (by decide) (Nat.le_of_ble_eq_true rfl) (Nat.le_of_ble_eq_true rfl) dX10_init_34 (fun q_4 H hP hD hS => ?_)
  have hP : va_P D vwCl [(h0, .inr (9, [.ref q_1, .ref q_2, .ref q_3, .null, .int 0, .int 0])), (q_1, .inl (y 3, 14, .inr (.inl (fun _ => 0)))), (q_2, .inl (y 2, 700, .inl (fun _ => 0))), (q_3, .inl (y 2, 700, .inl (fun _ => 0))), (q_4, .inl (y 3, 700, .inr (.inl (fun _ => 0))))] H := hP
  have hD : va_D A [(h0, .inr (9, [.ref q_1, .ref q_2, .ref q_3, .null, .int 0, .int 0])), (q_1, .inl (y 3, 14, .inr (.inl (fun _ => 0)))), (q_2, .inl (y 2, 700, .inl (fun _ => 0))), (q_3, .inl (y 2, 700, .inl (fun _ => 0))), (q_4, .inl (y 3, 700, .inr (.inl (fun _ => 0))))] := hD
  refine W.widen (k := 4) (n := 2114) (Nat.le_of_ble_eq_true rfl) (Nat.le_of_ble_eq_true rfl) ?_
  refine va_putF (D := D) (ci := 9) (v := .ref q_4) (ty := (.array .long)) (C := RX10) (T := TX10) (N := 6) hx hb hts inX10 tyX10 tyX10_ok nmX10 hown hK hP hD hS 0 rfl rfl 3 (by decide) fl22 (fun _ h9 => h9) rfl hmn rfl (by decide +kernel) rfl rfl (Nat.le_of_ble_eq_true rfl) dX10_init_36 (fun H locs hP hD hS => ?_)
  have hP : va_P D vwCl [(h0, .inr (9, [.ref q_1, .ref q_2, .ref q_3, .ref q_4, .int 0, .int 0])), (q_1, .inl (y 3, 14, .inr (.inl (fun _ => 0)))), (q_2, .inl (y 2, 700, .inl (fun _ => 0))), (q_3, .inl (y 2, 700, .inl (fun _ => 0))), (q_4, .inl (y 3, 700, .inr (.inl (fun _ => 0))))] H := hP
  have hD : va_D A [(h0, .inr (9, [.ref q_1, .ref q_2, .ref q_3, .ref q_4, .int 0, .int 0])), (q_1, .inl (y 3, 14, .inr (.inl (fun _ => 0)))), (q_2, .inl (y 2, 700, .inl (fun _ => 0))), (q_3, .inl (y 2, 700, .inl (fun _ => 0))), (q_4, .inl (y 3, 700, .inr (.inl (fun _ => 0))))] := hD
  refine lv_iconst (v := 0) hx hb dX10_init_39 (by decide) ?_
  refine lv_istore_n (lv' := [(1, .int 0), (0, .ref h0)]) hx hb dX10_init_40 rfl hl (by decide) rfl (fun ls hl => ?_)
  refine lv_iconst (v := 0) hx hb dX10_init_41 (by decide) ?_
  refine lv_istore_n (lv' := [(2, .int 0), (1, .int 0), (0, .ref h0)]) hx hb dX10_init_42 rfl hl (by decide) rfl (fun ls hl => ?_)
  have loop : ∀ (fu : Nat) (i : Int32) (wd : Int32) (fo : Nat → Int64) (H : Heap) (locs : List Loc) (ls : Array Slot), (0 ≤ i.toInt) → (i.toInt ≤ 60) → (0 ≤ wd.toInt) → (wd.toInt ≤ 14) → ((60 : Int) - i.toInt < (fu : Int)) → va_P D vwCl [(h0, .inr (9, [.ref q_1, .ref q_2, .ref q_3, .ref q_4, .int 0, .int 0])), (q_1, .inl (y 3, 14, .inr (.inl fo))), (q_2, .inl (y 2, 700, .inl (fun _ => 0))), (q_3, .inl (y 2, 700, .inl (fun _ => 0))), (q_4, .inl (y 3, 700, .inr (.inl (fun _ => 0))))] H → va_D A [(h0, .inr (9, [.ref q_1, .ref q_2, .ref q_3, .ref q_4, .int 0, .int 0])), (q_1, .inl (y 3, 14, .inr (.inl fo))), (q_2, .inl (y 2, 700, .inl (fun _ => 0))), (q_3, .inl (y 2, 700, .inl (fun _ => 0))), (q_4, .inl (y 3, 700, .inr (.inl (fun _ => 0))))] → va_S A s.heap H locs → lv_has ls 3 [(2, .int i), (1, .int wd), (0, .ref h0)] → W p l e ({ frames := 4, cells := 4, slots := 2114, locals := 85 } : Room) s m ([.ref h0] : List Value).toArray below meth c H locs 4 2114 Q (F0 m 43 ls []) := by
    intro fu
    induction fu with
    | zero =>
      intro i wd fo H locs ls hi0 hi1 hw0 hw1 hm
      exact absurd hm (by omega)
    | succ fu ih_loop =>
      intro i wd fo H locs ls hi0 hi1 hw0 hw1 hm hP hD hS hl
      refine lv_iload_n hx hb dX10_init_43 rfl (lv_at hl 0 rfl) ?_
      refine va_ldcS hx hb hown hE.1 dX10_init_44 ?_
      refine x_calli (w1 := fun (u : Unit) => []) (wr := [(h0, .inr (9, [.ref q_1, .ref q_2, .ref q_3, .ref q_4, .int 0, .int 0])), (q_1, .inl (y 3, 14, .inr (.inl fo))), (q_2, .inl (y 2, 700, .inl (fun _ => 0))), (q_3, .inl (y 2, 700, .inl (fun _ => 0))), (q_4, .inl (y 3, 700, .inr (.inl (fun _ => 0))))]) (ws' := fun (u : Unit) => [(h0, .inr (9, [.ref q_1, .ref q_2, .ref q_3, .ref q_4, .int 0, .int 0])), (q_1, .inl (y 3, 14, .inr (.inl fo))), (q_2, .inl (y 2, 700, .inl (fun _ => 0))), (q_3, .inl (y 2, 700, .inl (fun _ => 0))), (q_4, .inl (y 3, 700, .inr (.inl (fun _ => 0))))]) (va_runV (As := []) (rest := [.int i]) ⟨hx, hb, hml, hown, hts⟩ (c_slength l D y H.size a9 v9 o9 ) (cwV 0 hts g_c_Tokens_init_0 rfl rfl rfl (by decide +kernel) ⟨Nat.le_of_ble_eq_true rfl, Nat.le_of_ble_eq_true rfl⟩) (x_preVT (H := H) hK (x_subP hP [] rfl) (x_subD hD [] rfl (by decide)) hE hS (va_free hD hS hA [] rfl)) rfl rfl hl.1 rfl (lv_room (Nat.le_of_ble_eq_true rfl)) dX10_init_46 ⟨Nat.le_of_ble_eq_true rfl, Nat.le_of_ble_eq_true rfl⟩) hP hD hS hA [] [0, 1, 2, 3, 4] rfl rfl (by decide) (by decide) [0, 1, 2, 3, 4] (fun _ => rfl) (by decide) (fun r_5 u H locs hw hP hD hS => ?_)
      try dsimp only at hw
      obtain rfl : r_5 = 60 := hw
      have hP : va_P D vwCl [(h0, .inr (9, [.ref q_1, .ref q_2, .ref q_3, .ref q_4, .int 0, .int 0])), (q_1, .inl (y 3, 14, .inr (.inl fo))), (q_2, .inl (y 2, 700, .inl (fun _ => 0))), (q_3, .inl (y 2, 700, .inl (fun _ => 0))), (q_4, .inl (y 3, 700, .inr (.inl (fun _ => 0))))] H := hP
      have hD : va_D A [(h0, .inr (9, [.ref q_1, .ref q_2, .ref q_3, .ref q_4, .int 0, .int 0])), (q_1, .inl (y 3, 14, .inr (.inl fo))), (q_2, .inl (y 2, 700, .inl (fun _ => 0))), (q_3, .inl (y 2, 700, .inl (fun _ => 0))), (q_4, .inl (y 3, 700, .inr (.inl (fun _ => 0))))] := hD
      refine lv_icmp_ge (tgt := 102) hx hb dX10_init_49 (by decide) (fun c_6 => ?_) (fun c_6 => ?_)
      · exact x_vret (u := (q_1, q_2, q_3, q_4, fo)) hx hb hr trivial hP hD hK hS [0, 1, 2, 3, 4] rfl (by decide) dX10_init_102 hlocks hQ
      · refine lv_iload_n hx hb dX10_init_52 rfl (lv_at hl 1 rfl) ?_
        refine lv_bipush (v := 14) hx hb dX10_init_53 (by decide) ?_
        refine lv_icmp_ge (tgt := 102) hx hb dX10_init_55 (by decide) (fun c_7 => ?_) (fun c_7 => ?_)
        · exact x_vret (u := (q_1, q_2, q_3, q_4, fo)) hx hb hr trivial hP hD hK hS [0, 1, 2, 3, 4] rfl (by decide) dX10_init_102 hlocks hQ
        · refine va_ldcS hx hb hown hE.1 dX10_init_58 ?_
          refine lv_iload_n hx hb dX10_init_60 rfl (lv_at hl 0 rfl) ?_
          refine x_calli (w1 := fun (u : Unit) => []) (wr := [(h0, .inr (9, [.ref q_1, .ref q_2, .ref q_3, .ref q_4, .int 0, .int 0])), (q_1, .inl (y 3, 14, .inr (.inl fo))), (q_2, .inl (y 2, 700, .inl (fun _ => 0))), (q_3, .inl (y 2, 700, .inl (fun _ => 0))), (q_4, .inl (y 3, 700, .inr (.inl (fun _ => 0))))]) (ws' := fun (u : Unit) => [(h0, .inr (9, [.ref q_1, .ref q_2, .ref q_3, .ref q_4, .int 0, .int 0])), (q_1, .inl (y 3, 14, .inr (.inl fo))), (q_2, .inl (y 2, 700, .inl (fun _ => 0))), (q_3, .inl (y 2, 700, .inl (fun _ => 0))), (q_4, .inl (y 3, 700, .inr (.inl (fun _ => 0))))]) (va_runV (As := [.int i]) (rest := []) ⟨hx, hb, hml, hown, hts⟩ (c_scharAt l D y H.size a9 v9 o9 i (by (try dsimp only); (try simp only [lg_cmp_lt, lg_cmp_le, lg_cmp_gt, lg_cmp_ge] at *); (try simp only [x_lt, x_le, Int32.reduceToInt, x_ltL, x_leL, Int64.reduceToInt] at *); omega) (by (try dsimp only); (try simp only [lg_cmp_lt, lg_cmp_le, lg_cmp_gt, lg_cmp_ge] at *); (try simp only [x_lt, x_le, Int32.reduceToInt, x_ltL, x_leL, Int64.reduceToInt] at *); omega)) (cwV 1 hts g_c_Tokens_init_1 rfl rfl rfl (by decide +kernel) ⟨Nat.le_of_ble_eq_true rfl, Nat.le_of_ble_eq_true rfl⟩) (x_preVT (H := H) hK (x_subP hP [] rfl) (x_subD hD [] rfl (by decide)) hE hS (va_free hD hS hA [] rfl)) rfl rfl hl.1 rfl (lv_room (Nat.le_of_ble_eq_true rfl)) dX10_init_61 ⟨Nat.le_of_ble_eq_true rfl, Nat.le_of_ble_eq_true rfl⟩) hP hD hS hA [] [0, 1, 2, 3, 4] rfl rfl (by decide) (by decide) [0, 1, 2, 3, 4] (fun _ => rfl) (by decide) (fun r_8 u H locs hw hP hD hS => ?_)
          try dsimp only at hw
          have hP : va_P D vwCl [(h0, .inr (9, [.ref q_1, .ref q_2, .ref q_3, .ref q_4, .int 0, .int 0])), (q_1, .inl (y 3, 14, .inr (.inl fo))), (q_2, .inl (y 2, 700, .inl (fun _ => 0))), (q_3, .inl (y 2, 700, .inl (fun _ => 0))), (q_4, .inl (y 3, 700, .inr (.inl (fun _ => 0))))] H := hP
          have hD : va_D A [(h0, .inr (9, [.ref q_1, .ref q_2, .ref q_3, .ref q_4, .int 0, .int 0])), (q_1, .inl (y 3, 14, .inr (.inl fo))), (q_2, .inl (y 2, 700, .inl (fun _ => 0))), (q_3, .inl (y 2, 700, .inl (fun _ => 0))), (q_4, .inl (y 3, 700, .inr (.inl (fun _ => 0))))] := hD
          refine lv_bipush (v := 32) hx hb dX10_init_64 (by decide) ?_
          refine lv_icmp_ne (tgt := 75) hx hb dX10_init_66 (by decide) (fun c_9 => ?_) (fun c_9 => ?_)
          · refine lv_aload_n hx hb dX10_init_75 rfl (lv_at hl 2 rfl) ?_
            refine va_get (D := D) (ci := 9) (v := .ref q_1) (C := RX10) (T := TX10) (N := 6) hx hb hts inX10 hown hK hP 0 rfl rfl 0 (by decide) fl9 (fun _ h9 => h9) rfl dX10_init_76 ?_
            refine lv_iload_n hx hb dX10_init_79 rfl (lv_at hl 1 rfl) ?_
            refine lv_aload_n hx hb dX10_init_80 rfl (lv_at hl 2 rfl) ?_
            refine va_get (D := D) (ci := 9) (v := .ref q_1) (C := RX10) (T := TX10) (N := 6) hx hb hts inX10 hown hK hP 0 rfl rfl 0 (by decide) fl9 (fun _ h9 => h9) rfl dX10_init_81 ?_
            refine lv_iload_n hx hb dX10_init_84 rfl (lv_at hl 1 rfl) ?_
            refine va_lald hx hb hK hP 1 3 rfl rfl (x_in (by (try dsimp only); (try simp only [lg_cmp_lt, lg_cmp_le, lg_cmp_gt, lg_cmp_ge] at *); (try simp only [x_lt, x_le, Int32.reduceToInt, x_ltL, x_leL, Int64.reduceToInt] at *); omega) (by (try dsimp only); (try simp only [lg_cmp_lt, lg_cmp_le, lg_cmp_gt, lg_cmp_ge] at *); (try simp only [x_lt, x_le, Int32.reduceToInt, x_ltL, x_leL, Int64.reduceToInt] at *); omega)) dX10_init_85 ?_
            refine lv_topl (fun j_10 ej_10 => ?_)
            refine va_ldcS hx hb hown hE.1 dX10_init_86 ?_
            refine lv_iload_n hx hb dX10_init_88 rfl (lv_at hl 0 rfl) ?_
            refine x_calli (w1 := fun (u : Unit) => []) (wr := [(h0, .inr (9, [.ref q_1, .ref q_2, .ref q_3, .ref q_4, .int 0, .int 0])), (q_1, .inl (y 3, 14, .inr (.inl fo))), (q_2, .inl (y 2, 700, .inl (fun _ => 0))), (q_3, .inl (y 2, 700, .inl (fun _ => 0))), (q_4, .inl (y 3, 700, .inr (.inl (fun _ => 0))))]) (ws' := fun (u : Unit) => [(h0, .inr (9, [.ref q_1, .ref q_2, .ref q_3, .ref q_4, .int 0, .int 0])), (q_1, .inl (y 3, 14, .inr (.inl fo))), (q_2, .inl (y 2, 700, .inl (fun _ => 0))), (q_3, .inl (y 2, 700, .inl (fun _ => 0))), (q_4, .inl (y 3, 700, .inr (.inl (fun _ => 0))))]) (va_runV (As := [.int i]) (rest := [.long j_10, .int wd, .ref q_1]) ⟨hx, hb, hml, hown, hts⟩ (c_scharAt l D y H.size a9 v9 o9 i (by (try dsimp only); (try simp only [lg_cmp_lt, lg_cmp_le, lg_cmp_gt, lg_cmp_ge] at *); (try simp only [x_lt, x_le, Int32.reduceToInt, x_ltL, x_leL, Int64.reduceToInt] at *); omega) (by (try dsimp only); (try simp only [lg_cmp_lt, lg_cmp_le, lg_cmp_gt, lg_cmp_ge] at *); (try simp only [x_lt, x_le, Int32.reduceToInt, x_ltL, x_leL, Int64.reduceToInt] at *); omega)) (cwV 1 hts g_c_Tokens_init_1 rfl rfl rfl (by decide +kernel) ⟨Nat.le_of_ble_eq_true rfl, Nat.le_of_ble_eq_true rfl⟩) (x_preVT (H := H) hK (x_subP hP [] rfl) (x_subD hD [] rfl (by decide)) hE hS (va_free hD hS hA [] rfl)) rfl rfl hl.1 rfl (lv_room (Nat.le_of_ble_eq_true rfl)) dX10_init_89 ⟨Nat.le_of_ble_eq_true rfl, Nat.le_of_ble_eq_true rfl⟩) hP hD hS hA [] [0, 1, 2, 3, 4] rfl rfl (by decide) (by decide) [0, 1, 2, 3, 4] (fun _ => rfl) (by decide) (fun r_11 u H locs hw hP hD hS => ?_)
            try dsimp only at hw
            have hP : va_P D vwCl [(h0, .inr (9, [.ref q_1, .ref q_2, .ref q_3, .ref q_4, .int 0, .int 0])), (q_1, .inl (y 3, 14, .inr (.inl fo))), (q_2, .inl (y 2, 700, .inl (fun _ => 0))), (q_3, .inl (y 2, 700, .inl (fun _ => 0))), (q_4, .inl (y 3, 700, .inr (.inl (fun _ => 0))))] H := hP
            have hD : va_D A [(h0, .inr (9, [.ref q_1, .ref q_2, .ref q_3, .ref q_4, .int 0, .int 0])), (q_1, .inl (y 3, 14, .inr (.inl fo))), (q_2, .inl (y 2, 700, .inl (fun _ => 0))), (q_3, .inl (y 2, 700, .inl (fun _ => 0))), (q_4, .inl (y 3, 700, .inr (.inl (fun _ => 0))))] := hD
            refine x_calll (w1 := fun (u : Unit) => []) (wr := [(h0, .inr (9, [.ref q_1, .ref q_2, .ref q_3, .ref q_4, .int 0, .int 0])), (q_1, .inl (y 3, 14, .inr (.inl fo))), (q_2, .inl (y 2, 700, .inl (fun _ => 0))), (q_3, .inl (y 2, 700, .inl (fun _ => 0))), (q_4, .inl (y 3, 700, .inr (.inl (fun _ => 0))))]) (ws' := fun (u : Unit) => [(h0, .inr (9, [.ref q_1, .ref q_2, .ref q_3, .ref q_4, .int 0, .int 0])), (q_1, .inl (y 3, 14, .inr (.inl fo))), (q_2, .inl (y 2, 700, .inl (fun _ => 0))), (q_3, .inl (y 2, 700, .inl (fun _ => 0))), (q_4, .inl (y 3, 700, .inr (.inl (fun _ => 0))))]) (va_runS (As := [.long j_10, .int r_11]) (rest := [.int wd, .ref q_1]) ⟨hx, hb, hml, hown, hts⟩ (c_joined l D y H.size j_10 r_11) (cwS 2 hts g_c_Tokens_init_2 rfl rfl rfl (by decide +kernel) ⟨Nat.le_of_ble_eq_true rfl, Nat.le_of_ble_eq_true rfl⟩) (x_preS hK (x_subP hP [] rfl) (x_subD hD [] rfl (by decide))) rfl rfl hl.1 rfl (lv_room (Nat.le_of_ble_eq_true rfl)) dX10_init_92 ⟨Nat.le_of_ble_eq_true rfl, Nat.le_of_ble_eq_true rfl⟩) hP hD hS hA [] [0, 1, 2, 3, 4] rfl rfl (by decide) (by decide) [0, 1, 2, 3, 4] (fun _ => rfl) (by decide) (fun r_12 u H locs hw hP hD hS => ?_)
            try dsimp only at hw
            have hP : va_P D vwCl [(h0, .inr (9, [.ref q_1, .ref q_2, .ref q_3, .ref q_4, .int 0, .int 0])), (q_1, .inl (y 3, 14, .inr (.inl fo))), (q_2, .inl (y 2, 700, .inl (fun _ => 0))), (q_3, .inl (y 2, 700, .inl (fun _ => 0))), (q_4, .inl (y 3, 700, .inr (.inl (fun _ => 0))))] H := hP
            have hD : va_D A [(h0, .inr (9, [.ref q_1, .ref q_2, .ref q_3, .ref q_4, .int 0, .int 0])), (q_1, .inl (y 3, 14, .inr (.inl fo))), (q_2, .inl (y 2, 700, .inl (fun _ => 0))), (q_3, .inl (y 2, 700, .inl (fun _ => 0))), (q_4, .inl (y 3, 700, .inr (.inl (fun _ => 0))))] := hD
            refine va_last hx hb hK hP hD hS 1 3 rfl rfl (x_in (by (try dsimp only); (try simp only [lg_cmp_lt, lg_cmp_le, lg_cmp_gt, lg_cmp_ge] at *); (try simp only [x_lt, x_le, Int32.reduceToInt, x_ltL, x_leL, Int64.reduceToInt] at *); omega) (by (try dsimp only); (try simp only [lg_cmp_lt, lg_cmp_le, lg_cmp_gt, lg_cmp_ge] at *); (try simp only [x_lt, x_le, Int32.reduceToInt, x_ltL, x_leL, Int64.reduceToInt] at *); omega)) dX10_init_95 (fun H locs hP hD hS => ?_)
            obtain ⟨f_13, ef_13⟩ : ∃ z : Nat → Int64, z = (vp_updL fo (Int32.toNatClampNeg wd) r_12) := ⟨_, rfl⟩
            rw [← ef_13] at hP hD
            have hP : va_P D vwCl [(h0, .inr (9, [.ref q_1, .ref q_2, .ref q_3, .ref q_4, .int 0, .int 0])), (q_1, .inl (y 3, 14, .inr (.inl f_13))), (q_2, .inl (y 2, 700, .inl (fun _ => 0))), (q_3, .inl (y 2, 700, .inl (fun _ => 0))), (q_4, .inl (y 3, 700, .inr (.inl (fun _ => 0))))] H := hP
            have hD : va_D A [(h0, .inr (9, [.ref q_1, .ref q_2, .ref q_3, .ref q_4, .int 0, .int 0])), (q_1, .inl (y 3, 14, .inr (.inl f_13))), (q_2, .inl (y 2, 700, .inl (fun _ => 0))), (q_3, .inl (y 2, 700, .inl (fun _ => 0))), (q_4, .inl (y 3, 700, .inr (.inl (fun _ => 0))))] := hD
            obtain ⟨i_14, ei_14⟩ : ∃ z : Int32, z = i + 1 := ⟨_, rfl⟩
            refine lv_iinc (v := i_14) (lv' := [(2, .int i_14), (1, .int wd), (0, .ref h0)]) hx hb dX10_init_96 hl (k := 0) rfl (by rw [ei_14]; rfl) (by decide) rfl (fun ls hl => ?_)
            refine lv_goto (tgt := 43) hx hb dX10_init_99 (by decide) ?_
            have vi_14 := x_add ei_14 (by (try dsimp only); (try simp only [lg_cmp_lt, lg_cmp_le, lg_cmp_gt, lg_cmp_ge] at *); (try simp only [x_lt, x_le, Int32.reduceToInt, x_ltL, x_leL, Int64.reduceToInt] at *); omega) (by (try dsimp only); (try simp only [lg_cmp_lt, lg_cmp_le, lg_cmp_gt, lg_cmp_ge] at *); (try simp only [x_lt, x_le, Int32.reduceToInt, x_ltL, x_leL, Int64.reduceToInt] at *); omega)
            simp only [Int32.reduceToInt] at vi_14
            exact ih_loop i_14 wd f_13 H locs ls (by (try dsimp only); (try simp only [lg_cmp_lt, lg_cmp_le, lg_cmp_gt, lg_cmp_ge] at *); (try simp only [x_lt, x_le, Int32.reduceToInt, x_ltL, x_leL, Int64.reduceToInt] at *); omega) (by (try dsimp only); (try simp only [lg_cmp_lt, lg_cmp_le, lg_cmp_gt, lg_cmp_ge] at *); (try simp only [x_lt, x_le, Int32.reduceToInt, x_ltL, x_leL, Int64.reduceToInt] at *); omega) (by (try dsimp only); (try simp only [lg_cmp_lt, lg_cmp_le, lg_cmp_gt, lg_cmp_ge] at *); (try simp only [x_lt, x_le, Int32.reduceToInt, x_ltL, x_leL, Int64.reduceToInt] at *); omega) (by (try dsimp only); (try simp only [lg_cmp_lt, lg_cmp_le, lg_cmp_gt, lg_cmp_ge] at *); (try simp only [x_lt, x_le, Int32.reduceToInt, x_ltL, x_leL, Int64.reduceToInt] at *); omega) (by (try dsimp only); (try simp only [lg_cmp_lt, lg_cmp_le, lg_cmp_gt, lg_cmp_ge] at *); (try simp only [x_lt, x_le, Int32.reduceToInt, x_ltL, x_leL, Int64.reduceToInt] at *); omega) (x_subP hP [0, 1, 2, 3, 4] rfl) (x_subD hD [0, 1, 2, 3, 4] rfl (by decide)) hS (lv_sub hl [0, 1, 2] rfl)
          · obtain ⟨i_15, ei_15⟩ : ∃ z : Int32, z = wd + 1 := ⟨_, rfl⟩
            refine lv_iinc (v := i_15) (lv' := [(1, .int i_15), (2, .int i), (0, .ref h0)]) hx hb dX10_init_69 hl (k := 1) rfl (by rw [ei_15]; rfl) (by decide) rfl (fun ls hl => ?_)
            refine lv_goto (tgt := 96) hx hb dX10_init_72 (by decide) ?_
            obtain ⟨i_16, ei_16⟩ : ∃ z : Int32, z = i + 1 := ⟨_, rfl⟩
            refine lv_iinc (v := i_16) (lv' := [(2, .int i_16), (1, .int i_15), (0, .ref h0)]) hx hb dX10_init_96 hl (k := 1) rfl (by rw [ei_16]; rfl) (by decide) rfl (fun ls hl => ?_)
            refine lv_goto (tgt := 43) hx hb dX10_init_99 (by decide) ?_
            have vi_16 := x_add ei_16 (by (try dsimp only); (try simp only [lg_cmp_lt, lg_cmp_le, lg_cmp_gt, lg_cmp_ge] at *); (try simp only [x_lt, x_le, Int32.reduceToInt, x_ltL, x_leL, Int64.reduceToInt] at *); omega) (by (try dsimp only); (try simp only [lg_cmp_lt, lg_cmp_le, lg_cmp_gt, lg_cmp_ge] at *); (try simp only [x_lt, x_le, Int32.reduceToInt, x_ltL, x_leL, Int64.reduceToInt] at *); omega)
            simp only [Int32.reduceToInt] at vi_16
            have vi_15 := x_add ei_15 (by (try dsimp only); (try simp only [lg_cmp_lt, lg_cmp_le, lg_cmp_gt, lg_cmp_ge] at *); (try simp only [x_lt, x_le, Int32.reduceToInt, x_ltL, x_leL, Int64.reduceToInt] at *); omega) (by (try dsimp only); (try simp only [lg_cmp_lt, lg_cmp_le, lg_cmp_gt, lg_cmp_ge] at *); (try simp only [x_lt, x_le, Int32.reduceToInt, x_ltL, x_leL, Int64.reduceToInt] at *); omega)
            simp only [Int32.reduceToInt] at vi_15
            exact ih_loop i_16 i_15 fo H locs ls (by (try dsimp only); (try simp only [lg_cmp_lt, lg_cmp_le, lg_cmp_gt, lg_cmp_ge] at *); (try simp only [x_lt, x_le, Int32.reduceToInt, x_ltL, x_leL, Int64.reduceToInt] at *); omega) (by (try dsimp only); (try simp only [lg_cmp_lt, lg_cmp_le, lg_cmp_gt, lg_cmp_ge] at *); (try simp only [x_lt, x_le, Int32.reduceToInt, x_ltL, x_leL, Int64.reduceToInt] at *); omega) (by (try dsimp only); (try simp only [lg_cmp_lt, lg_cmp_le, lg_cmp_gt, lg_cmp_ge] at *); (try simp only [x_lt, x_le, Int32.reduceToInt, x_ltL, x_leL, Int64.reduceToInt] at *); omega) (by (try dsimp only); (try simp only [lg_cmp_lt, lg_cmp_le, lg_cmp_gt, lg_cmp_ge] at *); (try simp only [x_lt, x_le, Int32.reduceToInt, x_ltL, x_leL, Int64.reduceToInt] at *); omega) (by (try dsimp only); (try simp only [lg_cmp_lt, lg_cmp_le, lg_cmp_gt, lg_cmp_ge] at *); (try simp only [x_lt, x_le, Int32.reduceToInt, x_ltL, x_leL, Int64.reduceToInt] at *); omega) (x_subP hP [0, 1, 2, 3, 4] rfl) (x_subD hD [0, 1, 2, 3, 4] rfl (by decide)) hS (lv_sub hl [0, 1, 2] rfl)
  exact loop 61 0 0 (fun _ => 0) H locs ls (by decide) (by decide) (by decide) (by decide) (by (try dsimp only); (try simp only [lg_cmp_lt, lg_cmp_le, lg_cmp_gt, lg_cmp_ge] at *); (try simp only [x_lt, x_le, Int32.reduceToInt, x_ltL, x_leL, Int64.reduceToInt] at *); omega) (x_subP hP [0, 1, 2, 3, 4] rfl) (x_subD hD [0, 1, 2, 3, 4] rfl (by decide)) hS (lv_sub hl [0, 1, 2] rfl)

def v_c_Parser_init : List Cond := .code yX5_init cX5_init 1 none :: ([.fieldLink RX5 12 "SlopeRunner$Parser" "tokens" "LSlopeRunner$Tokens;", .fieldLink RX5 18 "SlopeRunner$Parser" "placeOfFault" "I", .methodLink RX5 3 objectInit, .instanceMethod objectInit, .code objectInit ⟨#[0xb1]⟩ 1 none, .classLink RX5 9 RX10, .instantiable RX10 6, .initialized RX10, .methodLink RX5 11 yX10_init, .instanceMethod yX10_init] ++ (v_c_Tokens_init ++ (wsX100 ++ wsX50)))
theorem g_c_Parser_init_0 : GoodIn v_c_Parser_init v_c_Tokens_init := goodIn_sub (fun w h => List.mem_cons_of_mem _ (List.mem_append_right _ (List.mem_append_left _ h))) (by decide +kernel)
set_option maxHeartbeats 4000000 in
set_option maxRecDepth 100000 in
theorem c_Parser_init (l : Launch) (D : va_G) (y : Nat → ClassId) (sz : Nat) (a9 v9 : Nat) (o9 : Option Nat) (h0 : Nat) : Met l yX5_init v_c_Parser_init ({ frames := 5, cells := 5, slots := 2120, locals := 107 } : Room) (va_Pc [.ref h0] (fun U => xE a9 v9 o9 (va_A [(h0, .inr (4, [.null, .null, .int 0, .int 0, .int 0, .int 0, .int 0, .int 0]))] sz) U ∧ xPre D (xT y) [(h0, .inr (4, [.null, .null, .int 0, .int 0, .int 0, .int 0, .int 0, .int 0]))] sz U)) (va_Qv (fun (_ : Nat × Nat × Nat × Nat × Nat × (Nat → Int64)) => True) (fun (u : Nat × Nat × Nat × Nat × Nat × (Nat → Int64)) => xB D (xT y) (va_A [(h0, .inr (4, [.null, .null, .int 0, .int 0, .int 0, .int 0, .int 0, .int 0]))] sz) [(h0, .inr (4, [.ref u.1, .null, .int 0, .int 0, .int 0, .int 0, .int 0, .int (-1)])), (u.1, .inr (9, [.ref u.2.1, .ref u.2.2.1, .ref u.2.2.2.1, .ref u.2.2.2.2.1, .int 0, .int 0])), (u.2.1, .inl (y 3, 14, .inr (.inl u.2.2.2.2.2))), (u.2.2.1, .inl (y 2, 700, .inl (fun _ => 0))), (u.2.2.2.1, .inl (y 2, 700, .inl (fun _ => 0))), (u.2.2.2.2.1, .inl (y 3, 700, .inr (.inl (fun _ => 0))))]) (va_A [(h0, .inr (4, [.null, .null, .int 0, .int 0, .int 0, .int 0, .int 0, .int 0]))] sz)) 5 2120 (va_A [(h0, .inr (4, [.null, .null, .int 0, .int 0, .int 0, .int 0, .int 0, .int 0]))] sz) := by
  refine x_metvE (cc := cX5_init) (maxL := 1) (by decide) rfl (Nat.le_of_ble_eq_true rfl) ?_
  intro p e s m below meth c A H locs Q hx hb hml hown hts hr hlocks hmn hA hP hK hD hS ls hl hQ hE
  have hl : lv_has ls 1 [(0, .ref h0)] := hl
  have inX10 : ∀ w ∈ wsX100, w ∈ v_c_Parser_init := (fun w h => List.mem_cons_of_mem _ (List.mem_append_right _ (List.mem_append_right _ (List.mem_append_left _ h))))
  have fl12 := hts (.fieldLink RX5 12 "SlopeRunner$Parser" "tokens" "LSlopeRunner$Tokens;") (List.mem_of_getElem? (i := 1) rfl)
  have inX5 : ∀ w ∈ wsX50, w ∈ v_c_Parser_init := (fun w h => List.mem_cons_of_mem _ (List.mem_append_right _ (List.mem_append_right _ (List.mem_append_right _ h))))
  have fl18 := hts (.fieldLink RX5 18 "SlopeRunner$Parser" "placeOfFault" "I") (List.mem_of_getElem? (i := 2) rfl)
  refine lv_aload_n hx hb dX5_init_0 rfl (lv_at hl 0 rfl) ?_
  refine W.objInit hx hb hown (hts (.methodLink RX5 3 objectInit) (List.mem_of_getElem? (i := 3) rfl)) (hts (.instanceMethod objectInit) (List.mem_of_getElem? (i := 4) rfl)) (hts (.code objectInit ⟨#[0xb1]⟩ 1 none) (List.mem_of_getElem? (i := 5) rfl)) rfl (by rw [hml]; exact hl.1) rfl dX5_init_1 (Nat.le_of_ble_eq_true rfl) (Nat.le_of_ble_eq_true rfl) ?_
  refine W.eq (g2 := F0 m 4 ls []) rfl ?_
  refine lv_aload_n hx hb dX5_init_4 rfl (lv_at hl 0 rfl) ?_
  refine va_new (ci := 9) (fs := [.null, .null, .null, .null, .int 0, .int 0]) (C := RX10) (T := TX10) (N := 6) hx hb hts inX10 tyX10 tyX10_ok hown (hts (.classLink RX5 9 RX10) (List.mem_of_getElem? (i := 6) rfl)) (hts (.instantiable RX10 6) (List.mem_of_getElem? (i := 7) rfl)) (hts (.initialized RX10) (List.mem_of_getElem? (i := 8) rfl)) hK hP hD hS hA rfl (x_dvX10) (Nat.le_of_ble_eq_true rfl) (Nat.le_of_ble_eq_true rfl) dX5_init_5 (fun q_1 H hP hD hS => ?_)
  have hP : va_P D vwCl [(h0, .inr (4, [.null, .null, .int 0, .int 0, .int 0, .int 0, .int 0, .int 0])), (q_1, .inr (9, [.null, .null, .null, .null, .int 0, .int 0]))] H := hP
  have hD : va_D A [(h0, .inr (4, [.null, .null, .int 0, .int 0, .int 0, .int 0, .int 0, .int 0])), (q_1, .inr (9, [.null, .null, .null, .null, .int 0, .int 0]))] := hD
  refine W.widen (k := 1) (n := 6) (Nat.le_of_ble_eq_true rfl) (Nat.le_of_ble_eq_true rfl) ?_
  refine lv_dup hx hb dX5_init_8 rfl ?_
  refine x_callv (w1 := fun (u : Nat × Nat × Nat × Nat × (Nat → Int64)) => [(q_1, .inr (9, [.ref u.1, .ref u.2.1, .ref u.2.2.1, .ref u.2.2.2.1, .int 0, .int 0])), (u.1, .inl (y 3, 14, .inr (.inl u.2.2.2.2))), (u.2.1, .inl (y 2, 700, .inl (fun _ => 0))), (u.2.2.1, .inl (y 2, 700, .inl (fun _ => 0))), (u.2.2.2.1, .inl (y 3, 700, .inr (.inl (fun _ => 0))))]) (wr := [(h0, .inr (4, [.null, .null, .int 0, .int 0, .int 0, .int 0, .int 0, .int 0]))]) (ws' := fun (u : Nat × Nat × Nat × Nat × (Nat → Int64)) => [(h0, .inr (4, [.null, .null, .int 0, .int 0, .int 0, .int 0, .int 0, .int 0])), (q_1, .inr (9, [.ref u.1, .ref u.2.1, .ref u.2.2.1, .ref u.2.2.2.1, .int 0, .int 0])), (u.1, .inl (y 3, 14, .inr (.inl u.2.2.2.2))), (u.2.1, .inl (y 2, 700, .inl (fun _ => 0))), (u.2.2.1, .inl (y 2, 700, .inl (fun _ => 0))), (u.2.2.2.1, .inl (y 3, 700, .inr (.inl (fun _ => 0))))]) (va_runI (As := []) (rest := [.ref q_1, .ref h0]) ⟨hx, hb, hml, hown, hts⟩ (c_Tokens_init l D y H.size a9 v9 o9 q_1) (cwI 0 hts g_c_Parser_init_0 rfl rfl rfl (hts (.initialized RX10) (List.mem_of_getElem? (i := 8) rfl)) (hts (.methodLink RX5 11 yX10_init) (List.mem_of_getElem? (i := 9) rfl)) (hts (.instanceMethod yX10_init) (List.mem_of_getElem? (i := 10) rfl)) rfl (by decide +kernel) ⟨Nat.le_of_ble_eq_true rfl, Nat.le_of_ble_eq_true rfl⟩) (x_preSE hK (x_subP hP [1] rfl) (x_subD hD [1] rfl (by decide)) hE hS (va_free hD hS hA [1] rfl)) rfl rfl hl.1 rfl (lv_room (Nat.le_of_ble_eq_true rfl)) dX5_init_9 ⟨Nat.le_of_ble_eq_true rfl, Nat.le_of_ble_eq_true rfl⟩) hP hD hS hA [1] [0] rfl rfl (by decide) (by decide) [0, 1, 2, 3, 4, 5] (fun _ => rfl) (by decide) (fun u H locs hw hP hD hS => ?_)
  obtain ⟨q_2, q_3, q_4, q_5, f_6⟩ := u
  try dsimp only at hw
  have hP : va_P D vwCl [(h0, .inr (4, [.null, .null, .int 0, .int 0, .int 0, .int 0, .int 0, .int 0])), (q_1, .inr (9, [.ref q_2, .ref q_3, .ref q_4, .ref q_5, .int 0, .int 0])), (q_2, .inl (y 3, 14, .inr (.inl f_6))), (q_3, .inl (y 2, 700, .inl (fun _ => 0))), (q_4, .inl (y 2, 700, .inl (fun _ => 0))), (q_5, .inl (y 3, 700, .inr (.inl (fun _ => 0))))] H := hP
  have hD : va_D A [(h0, .inr (4, [.null, .null, .int 0, .int 0, .int 0, .int 0, .int 0, .int 0])), (q_1, .inr (9, [.ref q_2, .ref q_3, .ref q_4, .ref q_5, .int 0, .int 0])), (q_2, .inl (y 3, 14, .inr (.inl f_6))), (q_3, .inl (y 2, 700, .inl (fun _ => 0))), (q_4, .inl (y 2, 700, .inl (fun _ => 0))), (q_5, .inl (y 3, 700, .inr (.inl (fun _ => 0))))] := hD
  refine W.widen (k := 5) (n := 2120) (Nat.le_of_ble_eq_true rfl) (Nat.le_of_ble_eq_true rfl) ?_
  refine va_putF (D := D) (ci := 4) (v := .ref q_1) (ty := (.object "SlopeRunner$Tokens")) (C := RX5) (T := TX5) (N := 8) hx hb hts inX5 tyX5 tyX5_ok nmX5 hown hK hP hD hS 0 rfl rfl 0 (by decide) fl12 (fun _ h9 => h9) rfl hmn rfl (by decide +kernel) rfl rfl (Nat.le_of_ble_eq_true rfl) dX5_init_12 (fun H locs hP hD hS => ?_)
  have hP : va_P D vwCl [(h0, .inr (4, [.ref q_1, .null, .int 0, .int 0, .int 0, .int 0, .int 0, .int 0])), (q_1, .inr (9, [.ref q_2, .ref q_3, .ref q_4, .ref q_5, .int 0, .int 0])), (q_2, .inl (y 3, 14, .inr (.inl f_6))), (q_3, .inl (y 2, 700, .inl (fun _ => 0))), (q_4, .inl (y 2, 700, .inl (fun _ => 0))), (q_5, .inl (y 3, 700, .inr (.inl (fun _ => 0))))] H := hP
  have hD : va_D A [(h0, .inr (4, [.ref q_1, .null, .int 0, .int 0, .int 0, .int 0, .int 0, .int 0])), (q_1, .inr (9, [.ref q_2, .ref q_3, .ref q_4, .ref q_5, .int 0, .int 0])), (q_2, .inl (y 3, 14, .inr (.inl f_6))), (q_3, .inl (y 2, 700, .inl (fun _ => 0))), (q_4, .inl (y 2, 700, .inl (fun _ => 0))), (q_5, .inl (y 3, 700, .inr (.inl (fun _ => 0))))] := hD
  refine lv_aload_n hx hb dX5_init_15 rfl (lv_at hl 0 rfl) ?_
  refine lv_iconst (v := (-1)) hx hb dX5_init_16 (by decide) ?_
  refine va_put (D := D) (ci := 4) (v := .int (-1)) (ty := .int) (C := RX5) (T := TX5) (N := 8) hx hb hts inX5 tyX5 tyX5_ok nmX5 hown hK hP hD hS 0 rfl rfl 7 (by decide) fl18 (fun _ h9 => h9) rfl (by decide +kernel) rfl rfl (Nat.le_of_ble_eq_true rfl) dX5_init_17 (fun H locs hP hD hS => ?_)
  have hP : va_P D vwCl [(h0, .inr (4, [.ref q_1, .null, .int 0, .int 0, .int 0, .int 0, .int 0, .int (-1)])), (q_1, .inr (9, [.ref q_2, .ref q_3, .ref q_4, .ref q_5, .int 0, .int 0])), (q_2, .inl (y 3, 14, .inr (.inl f_6))), (q_3, .inl (y 2, 700, .inl (fun _ => 0))), (q_4, .inl (y 2, 700, .inl (fun _ => 0))), (q_5, .inl (y 3, 700, .inr (.inl (fun _ => 0))))] H := hP
  have hD : va_D A [(h0, .inr (4, [.ref q_1, .null, .int 0, .int 0, .int 0, .int 0, .int 0, .int (-1)])), (q_1, .inr (9, [.ref q_2, .ref q_3, .ref q_4, .ref q_5, .int 0, .int 0])), (q_2, .inl (y 3, 14, .inr (.inl f_6))), (q_3, .inl (y 2, 700, .inl (fun _ => 0))), (q_4, .inl (y 2, 700, .inl (fun _ => 0))), (q_5, .inl (y 3, 700, .inr (.inl (fun _ => 0))))] := hD
  exact x_vret (u := (q_1, q_2, q_3, q_4, q_5, f_6)) hx hb hr trivial hP hD hK hS [0, 1, 2, 3, 4, 5] rfl (by decide) dX5_init_20 hlocks hQ


