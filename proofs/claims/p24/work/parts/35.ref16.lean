theorem dX12_named1_0 : decode cX12_named1 0 = .ok (.aload_n 0, 1) := by decide +kernel
theorem dX12_named1_1 : decode cX12_named1 1 = .ok (.invokevirtual 296, 3) := by decide +kernel
theorem dX12_named1_4 : decode cX12_named1 4 = .ok (.istore_n 1, 1) := by decide +kernel
theorem dX12_named1_5 : decode cX12_named1 5 = .ok (.aload_n 0, 1) := by decide +kernel
theorem dX12_named1_6 : decode cX12_named1 6 = .ok (.getfield 191, 3) := by decide +kernel
theorem dX12_named1_9 : decode cX12_named1 9 = .ok (.ifCond .eq 5, 3) := by decide +kernel
theorem dX12_named1_12 : decode cX12_named1 12 = .ok (.iconst 0, 1) := by decide +kernel
theorem dX12_named1_13 : decode cX12_named1 13 = .ok (.ireturn, 1) := by decide +kernel
theorem dX12_named1_14 : decode cX12_named1 14 = .ok (.iload_n 1, 1) := by decide +kernel
theorem dX12_named1_15 : decode cX12_named1 15 = .ok (.bipush 20, 2) := by decide +kernel
theorem dX12_named1_17 : decode cX12_named1 17 = .ok (.if_icmp .ge 13, 3) := by decide +kernel
theorem dX12_named1_20 : decode cX12_named1 20 = .ok (.aload_n 0, 1) := by decide +kernel
theorem dX12_named1_21 : decode cX12_named1 21 = .ok (.bipush 100, 2) := by decide +kernel
theorem dX12_named1_23 : decode cX12_named1 23 = .ok (.iload_n 1, 1) := by decide +kernel
theorem dX12_named1_24 : decode cX12_named1 24 = .ok (.iadd, 1) := by decide +kernel
theorem dX12_named1_25 : decode cX12_named1 25 = .ok (.invokevirtual 266, 3) := by decide +kernel
theorem dX12_named1_28 : decode cX12_named1 28 = .ok (.iconst 0, 1) := by decide +kernel
theorem dX12_named1_29 : decode cX12_named1 29 = .ok (.ireturn, 1) := by decide +kernel
theorem dX12_named1_30 : decode cX12_named1 30 = .ok (.aload_n 0, 1) := by decide +kernel
theorem dX12_named1_31 : decode cX12_named1 31 = .ok (.invokevirtual 203, 3) := by decide +kernel
theorem dX12_named1_34 : decode cX12_named1 34 = .ok (.bipush 91, 2) := by decide +kernel
theorem dX12_named1_36 : decode cX12_named1 36 = .ok (.if_icmp .eq 14, 3) := by decide +kernel
theorem dX12_named1_39 : decode cX12_named1 39 = .ok (.aload_n 0, 1) := by decide +kernel
theorem dX12_named1_40 : decode cX12_named1 40 = .ok (.iconst 1, 1) := by decide +kernel
theorem dX12_named1_41 : decode cX12_named1 41 = .ok (.aload_n 0, 1) := by decide +kernel
theorem dX12_named1_42 : decode cX12_named1 42 = .ok (.getfield 197, 3) := by decide +kernel
theorem dX12_named1_45 : decode cX12_named1 45 = .ok (.invokevirtual 221, 3) := by decide +kernel
theorem dX12_named1_48 : decode cX12_named1 48 = .ok (.iconst 0, 1) := by decide +kernel
theorem dX12_named1_49 : decode cX12_named1 49 = .ok (.ireturn, 1) := by decide +kernel
theorem dX12_named1_50 : decode cX12_named1 50 = .ok (.aload_n 0, 1) := by decide +kernel
theorem dX12_named1_51 : decode cX12_named1 51 = .ok (.bipush 26, 2) := by decide +kernel
theorem dX12_named1_53 : decode cX12_named1 53 = .ok (.iload_n 1, 1) := by decide +kernel
theorem dX12_named1_54 : decode cX12_named1 54 = .ok (.iadd, 1) := by decide +kernel
theorem dX12_named1_55 : decode cX12_named1 55 = .ok (.bipush 20, 2) := by decide +kernel
theorem dX12_named1_57 : decode cX12_named1 57 = .ok (.isub, 1) := by decide +kernel
theorem dX12_named1_58 : decode cX12_named1 58 = .ok (.aload_n 0, 1) := by decide +kernel
theorem dX12_named1_59 : decode cX12_named1 59 = .ok (.getfield 197, 3) := by decide +kernel
theorem dX12_named1_62 : decode cX12_named1 62 = .ok (.invokevirtual 279, 3) := by decide +kernel
theorem dX12_named1_65 : decode cX12_named1 65 = .ok (.aload_n 0, 1) := by decide +kernel
theorem dX12_named1_66 : decode cX12_named1 66 = .ok (.dup, 1) := by decide +kernel
theorem dX12_named1_67 : decode cX12_named1 67 = .ok (.getfield 197, 3) := by decide +kernel
theorem dX12_named1_70 : decode cX12_named1 70 = .ok (.iconst 1, 1) := by decide +kernel
theorem dX12_named1_71 : decode cX12_named1 71 = .ok (.iadd, 1) := by decide +kernel
theorem dX12_named1_72 : decode cX12_named1 72 = .ok (.putfield 197, 3) := by decide +kernel
theorem dX12_named1_75 : decode cX12_named1 75 = .ok (.iconst 1, 1) := by decide +kernel
theorem dX12_named1_76 : decode cX12_named1 76 = .ok (.ireturn, 1) := by decide +kernel
def v_q_named1 : List Cond := .code yX12_named1 cX12_named1 2 (some .boolean) :: ([.fieldLink RX12 191 "SlopeRunnerModel" "bad" "I", .fieldLink RX12 197 "SlopeRunnerModel" "at" "I"] ++ ((wsV RX12 296 RX12 yX12_nameTold v_q_nameTold) ++ ((wsV RX12 203 RX12 yX12_look v_q_look2) ++ ((wsV RX12 279 RX12 yX12_opensOne v_q_opensOne) ++ ((wsV RX12 221 RX12 yX12_fail v_q_fail) ++ ((wsV RX12 266 RX12 yX12_code v_q_code) ++ wsX120))))))
theorem g_q_named1_0 : GoodIn v_q_named1 (wsV RX12 296 RX12 yX12_nameTold v_q_nameTold) := goodIn_sub (fun w h => List.mem_cons_of_mem _ (List.mem_append_right _ (List.mem_append_left _ h))) (by decide +kernel)
theorem g_q_named1_1 : GoodIn v_q_named1 (wsV RX12 203 RX12 yX12_look v_q_look2) := goodIn_sub (fun w h => List.mem_cons_of_mem _ (List.mem_append_right _ (List.mem_append_right _ (List.mem_append_left _ h)))) (by decide +kernel)
theorem g_q_named1_2 : GoodIn v_q_named1 (wsV RX12 279 RX12 yX12_opensOne v_q_opensOne) := goodIn_sub (fun w h => List.mem_cons_of_mem _ (List.mem_append_right _ (List.mem_append_right _ (List.mem_append_right _ (List.mem_append_left _ h))))) (by decide +kernel)
theorem g_q_named1_3 : GoodIn v_q_named1 (wsV RX12 221 RX12 yX12_fail v_q_fail) := goodIn_sub (fun w h => List.mem_cons_of_mem _ (List.mem_append_right _ (List.mem_append_right _ (List.mem_append_right _ (List.mem_append_right _ (List.mem_append_left _ h)))))) (by decide +kernel)
theorem g_q_named1_4 : GoodIn v_q_named1 (wsV RX12 266 RX12 yX12_code v_q_code) := goodIn_sub (fun w h => List.mem_cons_of_mem _ (List.mem_append_right _ (List.mem_append_right _ (List.mem_append_right _ (List.mem_append_right _ (List.mem_append_right _ (List.mem_append_left _ h))))))) (by decide +kernel)
set_option maxHeartbeats 4000000 in
set_option maxRecDepth 100000 in
theorem q_named1 (l : Launch) (D : va_G) (y : Nat → ClassId) (sz : Nat) (ad : Nat → Nat) (zw : Nat → Nat → Int32) (σ : OS) (f0 w0 : Nat → Int32) (c0 b : Nat) (X o0 : Int) (ha0 : 0 ≤ (σ.1 2).toInt) (ha1 : (σ.1 2).toInt ≤ (σ.1 3).toInt) (ha2 : (σ.1 3).toInt ≤ 700) (hb0 : (σ.1 5).toInt = 0) (hn0 : 0 ≤ (σ.1 33).toInt) (hn1 : (σ.1 33).toInt ≤ 24) (ho0 : 0 ≤ (σ.1 32).toInt) (ho1 : (σ.1 32).toInt ≤ 8) (hw0 : 0 ≤ (σ.1 31).toInt) (hc0 : 0 ≤ (σ.1 29).toInt) (hcw : (σ.1 29).toInt + (σ.1 31).toInt ≤ (σ.1 2).toInt + 20) (hx : 1000 ≤ X) (hes : ES f0 (σ.2.2.1 27) w0 (σ.2.2.1 30) c0 (σ.1 29).toInt.toNat b (σ.1 31).toInt.toNat 0 X (σ.1 32).toInt o0) (hB35 : bI (σ.2.2.1 35) 0 23) : Met l yX12_named1 v_q_named1 ({ frames := 5, cells := 0, slots := 0, locals := 109 } : Room) (va_Pc [.ref (ad 1)] (xPre D (xT y) (mwd y ad zw σ) sz)) (va_Qi (fun (r : Int32) (u : Int32 × Int32 × Int32 × Int32 × Int32 × Int32 × (Nat → Int32) × Int32 × (Nat → Int32) × Int32) => (σ.1 2).toInt ≤ u.1.toInt ∧ u.1.toInt ≤ (σ.1 3).toInt ∧ (r.toInt = 0 ∨ r.toInt = 1) ∧ 0 ≤ u.2.2.2.2.2.2.2.1.toInt ∧ u.2.2.2.2.2.2.2.1.toInt ≤ 8 ∧ 0 ≤ u.2.2.2.2.2.2.2.2.2.toInt ∧ (σ.1 29).toInt ≤ u.2.2.2.2.2.1.toInt ∧ u.2.2.2.2.2.1.toInt + u.2.2.2.2.2.2.2.2.2.toInt - u.1.toInt ≤ (σ.1 29).toInt + (σ.1 31).toInt - (σ.1 2).toInt ∧ (u.2.2.1.toInt = 0 → (σ.1 2).toInt + 1 ≤ u.1.toInt ∧ (r.toInt = 0 → ES f0 u.2.2.2.2.2.2.1 w0 u.2.2.2.2.2.2.2.2.1 c0 u.2.2.2.2.2.1.toInt.toNat b u.2.2.2.2.2.2.2.2.2.toInt.toNat 1 X u.2.2.2.2.2.2.2.1.toInt o0) ∧ (r.toInt = 1 → ES f0 u.2.2.2.2.2.2.1 w0 u.2.2.2.2.2.2.2.2.1 c0 u.2.2.2.2.2.1.toInt.toNat b u.2.2.2.2.2.2.2.2.2.toInt.toNat 0 X u.2.2.2.2.2.2.2.1.toInt o0))) (fun (u : Int32 × Int32 × Int32 × Int32 × Int32 × Int32 × (Nat → Int32) × Int32 × (Nat → Int32) × Int32) => xB D (xT y) (va_A (mwd y ad zw σ) sz) (mwd y ad zw (sI (tI (sI (tI (sI (sI (sI (sI (sI (sI σ 2 u.1) 4 u.2.1) 5 u.2.2.1) 6 u.2.2.2.1) 23 u.2.2.2.2.1) 29 u.2.2.2.2.2.1) 27 u.2.2.2.2.2.2.1) 32 u.2.2.2.2.2.2.2.1) 30 u.2.2.2.2.2.2.2.2.1) 31 u.2.2.2.2.2.2.2.2.2))) (va_A (mwd y ad zw σ) sz)) 0 0 (va_A (mwd y ad zw σ) sz) := by
  refine x_meti (cc := cX12_named1) (maxL := 2) (by decide) rfl (Nat.le_of_ble_eq_true rfl) ?_
  intro p e s m below meth c A H locs Q hx hb hml hown hts hr hlocks hmn hA hP hK hD hS ls hl hQ
  have hl : lv_has ls 2 [(0, .ref (ad 1))] := hl
  have fl191 := hts (.fieldLink RX12 191 "SlopeRunnerModel" "bad" "I") (List.mem_of_getElem? (i := 1) rfl)
  have inX12 : ∀ w ∈ wsX120, w ∈ v_q_named1 := (fun w h => List.mem_cons_of_mem _ (List.mem_append_right _ (List.mem_append_right _ (List.mem_append_right _ (List.mem_append_right _ (List.mem_append_right _ (List.mem_append_right _ h)))))))
  have kk_0 : (0 : Int32).toInt = 0 := rfl
  have kk_20 : (20 : Int32).toInt = 20 := rfl
  have kk_91 : (91 : Int32).toInt = 91 := rfl
  have kk_26 : (26 : Int32).toInt = 26 := rfl
  have fl197 := hts (.fieldLink RX12 197 "SlopeRunnerModel" "at" "I") (List.mem_of_getElem? (i := 2) rfl)
  have kk_1 : (1 : Int32).toInt = 1 := rfl
  have kk_100 : (100 : Int32).toInt = 100 := rfl
  refine lv_aload_n hx hb dX12_named1_0 rfl (lv_at hl 0 rfl) ?_
  refine x_calliW (va_runV (As := []) (rest := []) ⟨hx, hb, hml, hown, hts⟩ (q_nameTold l D y H.size ad zw σ (show 0 ≤ ((σ.1 33)).toInt from by first | omega | decide) (show ((σ.1 33)).toInt ≤ 24 from by first | omega | decide) (show 0 ≤ ((σ.1 2)).toInt from by first | omega | decide) (show ((σ.1 2)).toInt ≤ ((σ.1 3)).toInt from by first | omega | decide) (show ((σ.1 3)).toInt ≤ 700 from by first | omega | decide) hB35) (cwV 0 hts g_q_named1_0 rfl rfl rfl (by decide +kernel) ⟨Nat.le_of_ble_eq_true rfl, Nat.le_of_ble_eq_true rfl⟩) (x_preV (q := (RX12, TX12, 85)) hK hP hD (ci := 11) (q0 := 0) rfl mwd_o0) rfl rfl hl.1 rfl (lv_room (Nat.le_of_ble_eq_true rfl)) dX12_named1_1 ⟨Nat.le_of_ble_eq_true rfl, Nat.le_of_ble_eq_true rfl⟩) hP hD hS hA (fun r_1 u H locs hw hP hD hS => ?_)
  obtain ⟨n_2, n_3, n_4, n_5, n_6⟩ := u
  try dsimp only at hw
  have hP : va_P D vwCl (mwd y ad zw (sI (sI (sI (sI (sI σ 2 n_2) 4 n_3) 5 n_4) 6 n_5) 23 n_6)) H := hP
  have hD : va_D A (mwd y ad zw (sI (sI (sI (sI (sI σ 2 n_2) 4 n_3) 5 n_4) 6 n_5) 23 n_6)) := hD
  have hw : ((σ.1 2)).toInt ≤ n_2.toInt ∧ n_2.toInt ≤ ((σ.1 3)).toInt ∧ (n_4.toInt = 0 → ((σ.1 5)).toInt = 0 ∧ ((σ.1 2)).toInt + 1 ≤ n_2.toInt) ∧ 0 ≤ r_1.toInt ∧ r_1.toInt ≤ 23 := hw
  refine lv_istore_n (lv' := [(1, .int r_1), (0, .ref (ad 1))]) hx hb dX12_named1_4 rfl hl (by decide) rfl (fun ls hl => ?_)
  refine lv_aload_n hx hb dX12_named1_5 rfl (lv_at hl 1 rfl) ?_
  refine va_get (D := D) (ci := 11) (v := .int n_4) (C := RX12) (T := TX12) (N := 85) hx hb hts inX12 hown hK hP 0 mwd_o0 rfl 5 (by decide) fl191 (fun _ h9 => h9) rfl dX12_named1_6 ?_
  refine lv_if_eq (tgt := 14) hx hb dX12_named1_9 (by decide) (fun c_7 => ?_) (fun c_7 => ?_)
  · have kc_7 : n_4.toInt = 0 := by have h9 := c_7; simp only [ge_iff_le, gt_iff_lt, x_lt, x_le, x_eq, ne_eq, Int32.not_lt, Int32.not_le] at h9; simp only [Int32.reduceToInt] at h9; omega
    refine lv_iload_n hx hb dX12_named1_14 rfl (lv_at hl 0 rfl) ?_
    refine lv_bipush (v := 20) hx hb dX12_named1_15 (by decide) ?_
    refine lv_icmp_ge (tgt := 30) hx hb dX12_named1_17 (by decide) (fun c_8 => ?_) (fun c_8 => ?_)
    · have kc_8 : r_1.toInt ≥ 20 := by have h9 := c_8; simp only [ge_iff_le, gt_iff_lt, x_lt, x_le, x_eq, ne_eq, Int32.not_lt, Int32.not_le] at h9; simp only [Int32.reduceToInt] at h9; omega
      refine lv_aload_n hx hb dX12_named1_30 rfl (lv_at hl 1 rfl) ?_
      refine x_calliW (va_runV (As := []) (rest := []) ⟨hx, hb, hml, hown, hts⟩ (q_look2 l D y H.size ad zw (sI (sI (sI (sI (sI σ 2 n_2) 4 n_3) 5 n_4) 6 n_5) 23 n_6) (show 0 ≤ (n_2).toInt from by first | omega | decide) (show (n_2).toInt ≤ ((σ.1 3)).toInt from by first | omega | decide) (show ((σ.1 3)).toInt ≤ 700 from by first | omega | decide)) (cwV 0 hts g_q_named1_1 rfl rfl rfl (by decide +kernel) ⟨Nat.le_of_ble_eq_true rfl, Nat.le_of_ble_eq_true rfl⟩) (x_preV (q := (RX12, TX12, 85)) hK hP hD (ci := 11) (q0 := 0) rfl mwd_o0) rfl rfl hl.1 rfl (lv_room (Nat.le_of_ble_eq_true rfl)) dX12_named1_31 ⟨Nat.le_of_ble_eq_true rfl, Nat.le_of_ble_eq_true rfl⟩) hP hD hS hA (fun r_9 u H locs hw hP hD hS => ?_)
      obtain ⟨n_10, rfl⟩ : ∃ z9, z9 = u := ⟨_, rfl⟩
      try dsimp only at hw
      have hP : va_P D vwCl (mwd y ad zw (sI (sI (sI (sI (sI (sI σ 2 n_2) 4 n_3) 5 n_4) 6 n_5) 23 n_6) 2 n_10)) H := hP
      have hD : va_D A (mwd y ad zw (sI (sI (sI (sI (sI (sI σ 2 n_2) 4 n_3) 5 n_4) 6 n_5) 23 n_6) 2 n_10)) := hD
      have hw : (n_2).toInt ≤ n_10.toInt ∧ n_10.toInt ≤ ((σ.1 3)).toInt ∧ (r_9.toInt = -1 ∨ (n_10.toInt < ((σ.1 3)).toInt ∧ r_9 = ((σ.2.2.1 0)) (Int32.toNatClampNeg n_10))) := hw
      have hlk := hw
      refine lv_bipush (v := 91) hx hb dX12_named1_34 (by decide) ?_
      refine lv_icmp_eq (tgt := 50) hx hb dX12_named1_36 (by decide) (fun c_11 => ?_) (fun c_11 => ?_)
      · have kc_11 : r_9.toInt = 91 := by have h9 := c_11; simp only [ge_iff_le, gt_iff_lt, x_lt, x_le, x_eq, ne_eq, Int32.not_lt, Int32.not_le] at h9; simp only [Int32.reduceToInt] at h9; omega
        refine lv_aload_n hx hb dX12_named1_50 rfl (lv_at hl 1 rfl) ?_
        refine lv_bipush (v := 26) hx hb dX12_named1_51 (by decide) ?_
        refine lv_iload_n hx hb dX12_named1_53 rfl (lv_at hl 0 rfl) ?_
        refine lv_iadd hx hb dX12_named1_54 ?_
        refine lv_topi (fun i_12 ei_12 => ?_)
        have vi_12 : i_12.toInt = 26 + r_1.toInt := by have h9 := x_add ei_12 (by omega) (by omega); omega
        refine lv_bipush (v := 20) hx hb dX12_named1_55 (by decide) ?_
        refine lv_isub hx hb dX12_named1_57 ?_
        refine lv_topi (fun i_13 ei_13 => ?_)
        have vi_13 : i_13.toInt = i_12.toInt - 20 := by have h9 := x_sub ei_13 (by omega) (by omega); omega
        refine lv_aload_n hx hb dX12_named1_58 rfl (lv_at hl 1 rfl) ?_
        refine va_get (D := D) (ci := 11) (v := .int n_10) (C := RX12) (T := TX12) (N := 85) hx hb hts inX12 hown hK hP 0 mwd_o0 rfl 2 (by decide) fl197 (fun _ h9 => h9) rfl dX12_named1_59 ?_
        refine x_callvW (va_runV (As := [.int i_13, .int n_10]) (rest := []) ⟨hx, hb, hml, hown, hts⟩ (q_opensOne l D y H.size ad zw (sI (sI (sI (sI (sI (sI σ 2 n_2) 4 n_3) 5 n_4) 6 n_5) 23 n_6) 2 n_10) i_13 n_10 (show 0 ≤ ((σ.1 32)).toInt from by first | omega | decide) (show ((σ.1 32)).toInt ≤ 8 from by first | omega | decide) (show 0 ≤ ((σ.1 31)).toInt from by first | omega | decide) (show ((σ.1 31)).toInt < 800 from by first | omega | decide)) (cwV 2 hts g_q_named1_2 rfl rfl rfl (by decide +kernel) ⟨Nat.le_of_ble_eq_true rfl, Nat.le_of_ble_eq_true rfl⟩) (x_preV (q := (RX12, TX12, 85)) hK hP hD (ci := 11) (q0 := 0) rfl mwd_o0) rfl rfl hl.1 rfl (lv_room (Nat.le_of_ble_eq_true rfl)) dX12_named1_62 ⟨Nat.le_of_ble_eq_true rfl, Nat.le_of_ble_eq_true rfl⟩) hP hD hS hA (fun u H locs hw hP hD hS => ?_)
        obtain ⟨n_14, n_15, n_16, f_17, n_18⟩ := u
        try dsimp only at hw
        have hP : va_P D vwCl (mwd y ad zw (sI (tI (sI (sI (sI (sI (sI (sI (sI (sI (sI σ 2 n_2) 4 n_3) 5 n_4) 6 n_5) 23 n_6) 2 n_10) 5 n_14) 6 n_15) 32 n_16) 30 f_17) 31 n_18)) H := hP
        have hD : va_D A (mwd y ad zw (sI (tI (sI (sI (sI (sI (sI (sI (sI (sI (sI σ 2 n_2) 4 n_3) 5 n_4) 6 n_5) 23 n_6) 2 n_10) 5 n_14) 6 n_15) 32 n_16) 30 f_17) 31 n_18)) := hD
        have hw : (n_14.toInt ≠ 0 ∧ n_18 = ((σ.1 31)) ∧ f_17 = ((σ.2.2.1 30)) ∧ n_16 = ((σ.1 32))) ∨ (n_14 = (n_4) ∧ n_16.toInt = ((σ.1 32)).toInt + 1 ∧ n_16.toInt ≤ 8 ∧ n_18.toInt = ((σ.1 31)).toInt + 1 ∧ f_17 = upd ((σ.2.2.1 30)) ((σ.1 31)).toInt.toNat i_13) := hw
        rcases hw with ⟨hq1, hq2, hq3, hq4⟩ | ⟨hq1, hq2, hq3, hq4, hq5⟩
        · have hq9 : n_18.toInt = (σ.1 31).toInt := by rw [hq2]
          have hq8 : n_16.toInt = (σ.1 32).toInt := by rw [hq4]
          refine lv_aload_n hx hb dX12_named1_65 rfl (lv_at hl 1 rfl) ?_
          refine lv_dup hx hb dX12_named1_66 rfl ?_
          refine va_get (D := D) (ci := 11) (v := .int n_10) (C := RX12) (T := TX12) (N := 85) hx hb hts inX12 hown hK hP 0 mwd_o0 rfl 2 (by decide) fl197 (fun _ h9 => h9) rfl dX12_named1_67 ?_
          refine lv_iconst (v := 1) hx hb dX12_named1_70 (by decide) ?_
          refine lv_iadd hx hb dX12_named1_71 ?_
          refine lv_topi (fun i_19 ei_19 => ?_)
          have vi_19 : i_19.toInt = n_10.toInt + 1 := by have h9 := x_add ei_19 (by omega) (by omega); omega
          refine va_put (D := D) (ci := 11) (v := .int i_19) (ty := .int) (C := RX12) (T := TX12) (N := 85) hx hb hts inX12 tyX12 tyX12_ok nmX12 hown hK hP hD hS 0 mwd_o0 rfl 2 (by decide) fl197 (fun _ h9 => h9) rfl (by decide +kernel) rfl rfl (Nat.le_of_ble_eq_true rfl) dX12_named1_72 (fun H locs hP hD hS => ?_)
          have hP : va_P D vwCl (mwd y ad zw (sI (sI (tI (sI (sI (sI (sI (sI (sI (sI (sI (sI σ 2 n_2) 4 n_3) 5 n_4) 6 n_5) 23 n_6) 2 n_10) 5 n_14) 6 n_15) 32 n_16) 30 f_17) 31 n_18) 2 i_19)) H := x_trP hP mwd_p0_2
          have hD : va_D A (mwd y ad zw (sI (sI (tI (sI (sI (sI (sI (sI (sI (sI (sI (sI σ 2 n_2) 4 n_3) 5 n_4) 6 n_5) 23 n_6) 2 n_10) 5 n_14) 6 n_15) 32 n_16) 30 f_17) 31 n_18) 2 i_19)) := x_trD hD mwd_p0_2
          refine lv_iconst (v := 1) hx hb dX12_named1_75 (by decide) ?_
          have hP : va_P D vwCl (mwd y ad zw (sI (tI (sI (tI (sI (sI (sI (sI (sI (sI σ 2 i_19) 4 n_3) 5 n_14) 6 n_15) 23 n_6) 29 (σ.1 29)) 27 (σ.2.2.1 27)) 32 n_16) 30 f_17) 31 n_18)) H := hP
          have hD : va_D A (mwd y ad zw (sI (tI (sI (tI (sI (sI (sI (sI (sI (sI σ 2 i_19) 4 n_3) 5 n_14) 6 n_15) 23 n_6) 29 (σ.1 29)) 27 (σ.2.2.1 27)) 32 n_16) 30 f_17) 31 n_18)) := hD
          exact x_zretW (v := 1) (u := (i_19, n_3, n_14, n_15, n_6, (σ.1 29), (σ.2.2.1 27), n_16, f_17, n_18)) hx hb hr hQ rfl (by (try dsimp only); exact ⟨by omega, by omega, by omega, by omega, by omega, by omega, by omega, by omega, fun h9 => absurd h9 (by omega)⟩) hP hD hK hS dX12_named1_76 hlocks
        · have hes9 : ES f0 (σ.2.2.1 27) w0 f_17 c0 (σ.1 29).toInt.toNat b n_18.toInt.toNat 0 X n_16.toInt o0 := by rw [hq5, show n_18.toInt.toNat = (σ.1 31).toInt.toNat + 1 by omega]; exact ES_open hes ⟨by omega, by omega, by omega, by omega⟩ hq2
          refine lv_aload_n hx hb dX12_named1_65 rfl (lv_at hl 1 rfl) ?_
          refine lv_dup hx hb dX12_named1_66 rfl ?_
          refine va_get (D := D) (ci := 11) (v := .int n_10) (C := RX12) (T := TX12) (N := 85) hx hb hts inX12 hown hK hP 0 mwd_o0 rfl 2 (by decide) fl197 (fun _ h9 => h9) rfl dX12_named1_67 ?_
          refine lv_iconst (v := 1) hx hb dX12_named1_70 (by decide) ?_
          refine lv_iadd hx hb dX12_named1_71 ?_
          refine lv_topi (fun i_20 ei_20 => ?_)
          have vi_20 : i_20.toInt = n_10.toInt + 1 := by have h9 := x_add ei_20 (by omega) (by omega); omega
          refine va_put (D := D) (ci := 11) (v := .int i_20) (ty := .int) (C := RX12) (T := TX12) (N := 85) hx hb hts inX12 tyX12 tyX12_ok nmX12 hown hK hP hD hS 0 mwd_o0 rfl 2 (by decide) fl197 (fun _ h9 => h9) rfl (by decide +kernel) rfl rfl (Nat.le_of_ble_eq_true rfl) dX12_named1_72 (fun H locs hP hD hS => ?_)
          have hP : va_P D vwCl (mwd y ad zw (sI (sI (tI (sI (sI (sI (sI (sI (sI (sI (sI (sI σ 2 n_2) 4 n_3) 5 n_4) 6 n_5) 23 n_6) 2 n_10) 5 n_14) 6 n_15) 32 n_16) 30 f_17) 31 n_18) 2 i_20)) H := x_trP hP mwd_p0_2
          have hD : va_D A (mwd y ad zw (sI (sI (tI (sI (sI (sI (sI (sI (sI (sI (sI (sI σ 2 n_2) 4 n_3) 5 n_4) 6 n_5) 23 n_6) 2 n_10) 5 n_14) 6 n_15) 32 n_16) 30 f_17) 31 n_18) 2 i_20)) := x_trD hD mwd_p0_2
          refine lv_iconst (v := 1) hx hb dX12_named1_75 (by decide) ?_
          have hP : va_P D vwCl (mwd y ad zw (sI (tI (sI (tI (sI (sI (sI (sI (sI (sI σ 2 i_20) 4 n_3) 5 n_14) 6 n_15) 23 n_6) 29 (σ.1 29)) 27 (σ.2.2.1 27)) 32 n_16) 30 f_17) 31 n_18)) H := hP
          have hD : va_D A (mwd y ad zw (sI (tI (sI (tI (sI (sI (sI (sI (sI (sI σ 2 i_20) 4 n_3) 5 n_14) 6 n_15) 23 n_6) 29 (σ.1 29)) 27 (σ.2.2.1 27)) 32 n_16) 30 f_17) 31 n_18)) := hD
          exact x_zretW (v := 1) (u := (i_20, n_3, n_14, n_15, n_6, (σ.1 29), (σ.2.2.1 27), n_16, f_17, n_18)) hx hb hr hQ rfl (by (try dsimp only); exact ⟨by omega, by omega, by omega, by omega, by omega, by omega, by omega, by omega, fun h9 => ⟨by omega, fun h8 => absurd h8 (by omega), fun _ => hes9⟩⟩) hP hD hK hS dX12_named1_76 hlocks
      · have kc_11 : r_9.toInt ≠ 91 := by have h9 := c_11; simp only [ge_iff_le, gt_iff_lt, x_lt, x_le, x_eq, ne_eq, Int32.not_lt, Int32.not_le] at h9; simp only [Int32.reduceToInt] at h9; omega
        refine lv_aload_n hx hb dX12_named1_39 rfl (lv_at hl 1 rfl) ?_
        refine lv_iconst (v := 1) hx hb dX12_named1_40 (by decide) ?_
        refine lv_aload_n hx hb dX12_named1_41 rfl (lv_at hl 1 rfl) ?_
        refine va_get (D := D) (ci := 11) (v := .int n_10) (C := RX12) (T := TX12) (N := 85) hx hb hts inX12 hown hK hP 0 mwd_o0 rfl 2 (by decide) fl197 (fun _ h9 => h9) rfl dX12_named1_42 ?_
        refine x_callvW (va_runV (As := [.int 1, .int n_10]) (rest := []) ⟨hx, hb, hml, hown, hts⟩ (q_fail l D y H.size ad zw (sI (sI (sI (sI (sI (sI σ 2 n_2) 4 n_3) 5 n_4) 6 n_5) 23 n_6) 2 n_10) 1 n_10) (cwV 2 hts g_q_named1_3 rfl rfl rfl (by decide +kernel) ⟨Nat.le_of_ble_eq_true rfl, Nat.le_of_ble_eq_true rfl⟩) (x_preV (q := (RX12, TX12, 85)) hK hP hD (ci := 11) (q0 := 0) rfl mwd_o0) rfl rfl hl.1 rfl (lv_room (Nat.le_of_ble_eq_true rfl)) dX12_named1_45 ⟨Nat.le_of_ble_eq_true rfl, Nat.le_of_ble_eq_true rfl⟩) hP hD hS hA (fun u H locs hw hP hD hS => ?_)
        obtain ⟨b_21, b_22⟩ := u
        try dsimp only at hw
        have hP : va_P D vwCl (mwd y ad zw (sI (sI (sI (sI (sI (sI (sI (sI σ 2 n_2) 4 n_3) 5 n_4) 6 n_5) 23 n_6) 2 n_10) 5 b_21) 6 b_22)) H := hP
        have hD : va_D A (mwd y ad zw (sI (sI (sI (sI (sI (sI (sI (sI σ 2 n_2) 4 n_3) 5 n_4) 6 n_5) 23 n_6) 2 n_10) 5 b_21) 6 b_22)) := hD
        have hw : b_21 = if n_4 = 0 then 1 else n_4 := hw
        have hbd : b_21.toInt ≠ 0 := by rw [hw]; split <;> first | decide | (rename_i h9; intro h8; exact h9 (Int32.toInt_inj.mp (by rw [h8]; rfl)))
        refine lv_iconst (v := 0) hx hb dX12_named1_48 (by decide) ?_
        have hP : va_P D vwCl (mwd y ad zw (sI (tI (sI (tI (sI (sI (sI (sI (sI (sI σ 2 n_10) 4 n_3) 5 b_21) 6 b_22) 23 n_6) 29 (σ.1 29)) 27 (σ.2.2.1 27)) 32 (σ.1 32)) 30 (σ.2.2.1 30)) 31 (σ.1 31))) H := hP
        have hD : va_D A (mwd y ad zw (sI (tI (sI (tI (sI (sI (sI (sI (sI (sI σ 2 n_10) 4 n_3) 5 b_21) 6 b_22) 23 n_6) 29 (σ.1 29)) 27 (σ.2.2.1 27)) 32 (σ.1 32)) 30 (σ.2.2.1 30)) 31 (σ.1 31))) := hD
        exact x_zretW (v := 0) (u := (n_10, n_3, b_21, b_22, n_6, (σ.1 29), (σ.2.2.1 27), (σ.1 32), (σ.2.2.1 30), (σ.1 31))) hx hb hr hQ rfl (by (try dsimp only); exact ⟨by omega, by omega, by omega, by omega, by omega, by omega, by omega, by omega, fun h9 => absurd h9 (by omega)⟩) hP hD hK hS dX12_named1_49 hlocks
    · have kc_8 : r_1.toInt < 20 := by have h9 := c_8; simp only [ge_iff_le, gt_iff_lt, x_lt, x_le, x_eq, ne_eq, Int32.not_lt, Int32.not_le] at h9; simp only [Int32.reduceToInt] at h9; omega
      refine lv_aload_n hx hb dX12_named1_20 rfl (lv_at hl 1 rfl) ?_
      refine lv_bipush (v := 100) hx hb dX12_named1_21 (by decide) ?_
      refine lv_iload_n hx hb dX12_named1_23 rfl (lv_at hl 0 rfl) ?_
      refine lv_iadd hx hb dX12_named1_24 ?_
      refine lv_topi (fun i_23 ei_23 => ?_)
      have vi_23 : i_23.toInt = 100 + r_1.toInt := by have h9 := x_add ei_23 (by omega) (by omega); omega
      refine x_callvW (va_runV (As := [.int i_23]) (rest := []) ⟨hx, hb, hml, hown, hts⟩ (q_code l D y H.size ad zw (sI (sI (sI (sI (sI σ 2 n_2) 4 n_3) 5 n_4) 6 n_5) 23 n_6) i_23 (show 0 ≤ ((σ.1 29)).toInt from by first | omega | decide) (show ((σ.1 29)).toInt < 1200 from by first | omega | decide)) (cwV 1 hts g_q_named1_4 rfl rfl rfl (by decide +kernel) ⟨Nat.le_of_ble_eq_true rfl, Nat.le_of_ble_eq_true rfl⟩) (x_preV (q := (RX12, TX12, 85)) hK hP hD (ci := 11) (q0 := 0) rfl mwd_o0) rfl rfl hl.1 rfl (lv_room (Nat.le_of_ble_eq_true rfl)) dX12_named1_25 ⟨Nat.le_of_ble_eq_true rfl, Nat.le_of_ble_eq_true rfl⟩) hP hD hS hA (fun u H locs hw hP hD hS => ?_)
      obtain ⟨n_24, f_25⟩ := u
      try dsimp only at hw
      have hP : va_P D vwCl (mwd y ad zw (tI (sI (sI (sI (sI (sI (sI σ 2 n_2) 4 n_3) 5 n_4) 6 n_5) 23 n_6) 29 n_24) 27 f_25)) H := hP
      have hD : va_D A (mwd y ad zw (tI (sI (sI (sI (sI (sI (sI σ 2 n_2) 4 n_3) 5 n_4) 6 n_5) 23 n_6) 29 n_24) 27 f_25)) := hD
      have hw : n_24.toInt = ((σ.1 29)).toInt + 1 ∧ f_25 = upd ((σ.2.2.1 27)) ((σ.1 29)).toInt.toNat i_23 := hw
      obtain ⟨hcd1, hcd2⟩ := hw
      have hes9 : ES f0 f_25 w0 (σ.2.2.1 30) c0 n_24.toInt.toNat b (σ.1 31).toInt.toNat 1 X (σ.1 32).toInt o0 := by rw [hcd2, show n_24.toInt.toNat = (σ.1 29).toInt.toNat + 1 by omega]; exact ES_code hes (Or.inr ⟨by omega, by omega⟩) (by omega)
      refine lv_iconst (v := 0) hx hb dX12_named1_28 (by decide) ?_
      have hP : va_P D vwCl (mwd y ad zw (sI (tI (sI (tI (sI (sI (sI (sI (sI (sI σ 2 n_2) 4 n_3) 5 n_4) 6 n_5) 23 n_6) 29 n_24) 27 f_25) 32 (σ.1 32)) 30 (σ.2.2.1 30)) 31 (σ.1 31))) H := hP
      have hD : va_D A (mwd y ad zw (sI (tI (sI (tI (sI (sI (sI (sI (sI (sI σ 2 n_2) 4 n_3) 5 n_4) 6 n_5) 23 n_6) 29 n_24) 27 f_25) 32 (σ.1 32)) 30 (σ.2.2.1 30)) 31 (σ.1 31))) := hD
      exact x_zretW (v := 0) (u := (n_2, n_3, n_4, n_5, n_6, n_24, f_25, (σ.1 32), (σ.2.2.1 30), (σ.1 31))) hx hb hr hQ rfl (by (try dsimp only); exact ⟨by omega, by omega, by omega, by omega, by omega, by omega, by omega, by omega, fun h9 => ⟨by omega, fun _ => hes9, fun h8 => absurd h8 (by omega)⟩⟩) hP hD hK hS dX12_named1_29 hlocks
  · have kc_7 : n_4.toInt ≠ 0 := by have h9 := c_7; simp only [ge_iff_le, gt_iff_lt, x_lt, x_le, x_eq, ne_eq, Int32.not_lt, Int32.not_le] at h9; simp only [Int32.reduceToInt] at h9; omega
    refine lv_iconst (v := 0) hx hb dX12_named1_12 (by decide) ?_
    have hP : va_P D vwCl (mwd y ad zw (sI (tI (sI (tI (sI (sI (sI (sI (sI (sI σ 2 n_2) 4 n_3) 5 n_4) 6 n_5) 23 n_6) 29 (σ.1 29)) 27 (σ.2.2.1 27)) 32 (σ.1 32)) 30 (σ.2.2.1 30)) 31 (σ.1 31))) H := hP
    have hD : va_D A (mwd y ad zw (sI (tI (sI (tI (sI (sI (sI (sI (sI (sI σ 2 n_2) 4 n_3) 5 n_4) 6 n_5) 23 n_6) 29 (σ.1 29)) 27 (σ.2.2.1 27)) 32 (σ.1 32)) 30 (σ.2.2.1 30)) 31 (σ.1 31))) := hD
    exact x_zretW (v := 0) (u := (n_2, n_3, n_4, n_5, n_6, (σ.1 29), (σ.2.2.1 27), (σ.1 32), (σ.2.2.1 30), (σ.1 31))) hx hb hr hQ rfl (by (try dsimp only); exact ⟨by omega, by omega, by omega, by omega, by omega, by omega, by omega, by omega, fun h9 => absurd h9 (by omega)⟩) hP hD hK hS dX12_named1_13 hlocks

