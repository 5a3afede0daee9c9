def v_q_goes1 : List Cond := .code yX12_goes cX12_goes 4 none :: ([.fieldLink RX12 60 "SlopeRunnerModel" "has" "[I", .fieldLink RX12 139 "SlopeRunnerModel" "laid" "[I", .fieldLink RX12 142 "SlopeRunnerModel" "steps" "[I", .fieldLink RX12 145 "SlopeRunnerModel" "results" "[I", .fieldLink RX12 151 "SlopeRunnerModel" "edges" "[I", .fieldLink RX12 154 "SlopeRunnerModel" "state" "[I", .fieldLink RX12 421 "SlopeRunnerModel" "piled" "I", .fieldLink RX12 72 "SlopeRunnerModel" "codeMany" "[I", .fieldLink RX12 157 "SlopeRunnerModel" "held" "[I", .fieldLink RX12 66 "SlopeRunnerModel" "numbers" "[I", .fieldLink RX12 118 "SlopeRunnerModel" "runAbove" "[J", .fieldLink RX12 121 "SlopeRunnerModel" "runBelow" "[J"] ++ ((wsV RX12 433 RX12 yX12_lays v_q_lays1) ++ ((wsV RX12 441 RX12 yX12_does v_q_does1) ++ wsX120)))
theorem g_q_goes1_0 : GoodIn v_q_goes1 (wsV RX12 433 RX12 yX12_lays v_q_lays1) := goodIn_sub (fun w h => List.mem_cons_of_mem _ (List.mem_append_right _ (List.mem_append_left _ h))) (by decide +kernel)
theorem g_q_goes1_1 : GoodIn v_q_goes1 (wsV RX12 441 RX12 yX12_does v_q_does1) := goodIn_sub (fun w h => List.mem_cons_of_mem _ (List.mem_append_right _ (List.mem_append_right _ (List.mem_append_left _ h)))) (by decide +kernel)
set_option maxHeartbeats 4000000 in
set_option maxRecDepth 100000 in
theorem q_goes1 (l : Launch) (D : va_G) (y : Nat → ClassId) (sz : Nat) (ad : Nat → Nat) (zw : Nat → Nat → Int32) (σ : OS) (h5 : 0 ≤ (σ.2.2.1 24 5).toInt ∧ (σ.2.2.1 24 5).toInt ≤ 8) (h9n : 0 ≤ (σ.2.2.1 24 9).toInt ∧ (σ.2.2.1 24 9).toInt ≤ 700) (n : Nat) (ty : Nat → Option (List Bool × Bool)) (hcm : (σ.2.2.1 28 1).toInt = (n : Int)) (hn2 : n ≤ 700) (hW : WC (fun j => σ.2.2.1 85 (1200 + j)) n (σ.2.2.1 24 9).toInt ty) (hop : opc (σ.2.2.1 59) (σ.2.2.1 60) (σ.2.2.1 61)) (hB57 : bJ (σ.2.2.2 57) (-1000000000) 1000000000) (hB58 : bJ (σ.2.2.2 58) 0 1000000000) (hB62 : bI (σ.2.2.1 62) 0 1760) (hB63 : bI (σ.2.2.1 63) 0 1000) (hB25 : bI (σ.2.2.1 25) 0 16) (hB64 : bI (σ.2.2.1 64) 0 12) (hB65 : bI (σ.2.2.1 65) 0 1759) (hB26 : bI (σ.2.2.1 26) 0 9999) (hB55 : bJ (σ.2.2.2 55) (-1000000000) 1000000000) (hB56 : bJ (σ.2.2.2 56) 0 1000000000) : Met l yX12_goes v_q_goes1 ({ frames := 6, cells := 0, slots := 0, locals := 166 } : Room) (va_Pc [.ref (ad 1), .int 1] (xPre D (xT y) (mwd y ad zw σ) sz)) (va_Qv (fun (u : Int32 × (Nat → Int32) × (Nat → Int32) × (Nat → Int32) × (Nat → Int32) × Int32 × Int64 × Int64 × Int32 × Int64 × Int64 × (Nat → Int64) × (Nat → Int64) × (Nat → Int32) × (Nat → Int32) × (Nat → Int32) × (Nat → Int32) × (Nat → Int32) × (Nat → Int32) × (Nat → Int32)) => (opc u.2.2.2.2.2.2.2.2.2.2.2.2.2.1 u.2.2.2.2.2.2.2.2.2.2.2.2.2.2.1 u.2.2.2.2.2.2.2.2.2.2.2.2.2.2.2.1) ∧ bJ u.2.2.2.2.2.2.2.2.2.2.2.1 (-1000000000) 1000000000 ∧ bJ u.2.2.2.2.2.2.2.2.2.2.2.2.1 0 1000000000 ∧ bI u.2.2.2.2.2.2.2.2.2.2.2.2.2.2.2.2.1 0 1760 ∧ bI u.2.2.1 0 1000 ∧ bI u.2.2.2.2.2.2.2.2.2.2.2.2.2.2.2.2.2.2.1 0 12 ∧ bI u.2.2.2.2.2.2.2.2.2.2.2.2.2.2.2.2.2.2.2 0 1759) (fun (u : Int32 × (Nat → Int32) × (Nat → Int32) × (Nat → Int32) × (Nat → Int32) × Int32 × Int64 × Int64 × Int32 × Int64 × Int64 × (Nat → Int64) × (Nat → Int64) × (Nat → Int32) × (Nat → Int32) × (Nat → Int32) × (Nat → Int32) × (Nat → Int32) × (Nat → Int32) × (Nat → Int32)) => xB D (xT y) (va_A (mwd y ad zw σ) sz) (mwd y ad zw (tI (tI (tI (tI (tI (tI (tI (tJ (tJ (sJ (sJ (sI (sJ (sJ (sI (tI (tI (tI (tI (sI σ 73 u.1) 72 u.2.1) 63 u.2.2.1) 67 u.2.2.2.1) 66 u.2.2.2.2.1) 44 u.2.2.2.2.2.1) 42 u.2.2.2.2.2.2.1) 43 u.2.2.2.2.2.2.2.1) 68 u.2.2.2.2.2.2.2.2.1) 69 u.2.2.2.2.2.2.2.2.2.1) 70 u.2.2.2.2.2.2.2.2.2.2.1) 57 u.2.2.2.2.2.2.2.2.2.2.2.1) 58 u.2.2.2.2.2.2.2.2.2.2.2.2.1) 59 u.2.2.2.2.2.2.2.2.2.2.2.2.2.1) 60 u.2.2.2.2.2.2.2.2.2.2.2.2.2.2.1) 61 u.2.2.2.2.2.2.2.2.2.2.2.2.2.2.2.1) 62 u.2.2.2.2.2.2.2.2.2.2.2.2.2.2.2.2.1) 71 u.2.2.2.2.2.2.2.2.2.2.2.2.2.2.2.2.2.1) 64 u.2.2.2.2.2.2.2.2.2.2.2.2.2.2.2.2.2.2.1) 65 u.2.2.2.2.2.2.2.2.2.2.2.2.2.2.2.2.2.2.2))) (va_A (mwd y ad zw σ) sz)) 0 0 (va_A (mwd y ad zw σ) sz) := by
  refine x_metv (cc := cX12_goes) (maxL := 4) (by decide) rfl (Nat.le_of_ble_eq_true rfl) ?_
  intro p e s m below meth c A H locs Q hx hb hml hown hts hr hlocks hmn hA hP hK hD hS ls hl hQ
  have hl : lv_has ls 4 [(0, .ref (ad 1)), (1, .int 1)] := hl
  have fl60 := hts (.fieldLink RX12 60 "SlopeRunnerModel" "has" "[I") (List.mem_of_getElem? (i := 1) rfl)
  have inX12 : ∀ w ∈ wsX120, w ∈ v_q_goes1 := (fun w h => List.mem_cons_of_mem _ (List.mem_append_right _ (List.mem_append_right _ (List.mem_append_right _ h))))
  have fl139 := hts (.fieldLink RX12 139 "SlopeRunnerModel" "laid" "[I") (List.mem_of_getElem? (i := 2) rfl)
  have fl142 := hts (.fieldLink RX12 142 "SlopeRunnerModel" "steps" "[I") (List.mem_of_getElem? (i := 3) rfl)
  have fl145 := hts (.fieldLink RX12 145 "SlopeRunnerModel" "results" "[I") (List.mem_of_getElem? (i := 4) rfl)
  have fl151 := hts (.fieldLink RX12 151 "SlopeRunnerModel" "edges" "[I") (List.mem_of_getElem? (i := 5) rfl)
  have fl154 := hts (.fieldLink RX12 154 "SlopeRunnerModel" "state" "[I") (List.mem_of_getElem? (i := 6) rfl)
  have fl421 := hts (.fieldLink RX12 421 "SlopeRunnerModel" "piled" "I") (List.mem_of_getElem? (i := 7) rfl)
  have kk_1 : (1 : Int32).toInt = 1 := rfl
  have kl_0 : (0 : Int64).toInt = 0 := rfl
  have kl_1 : (1 : Int64).toInt = 1 := rfl
  have kk_0 : (0 : Int32).toInt = 0 := rfl
  have kk_m1 : ((-1) : Int32).toInt = -1 := rfl
  have kk_84 : (84 : Int32).toInt = 84 := rfl
  have fl72 := hts (.fieldLink RX12 72 "SlopeRunnerModel" "codeMany" "[I") (List.mem_of_getElem? (i := 8) rfl)
  have fl157 := hts (.fieldLink RX12 157 "SlopeRunnerModel" "held" "[I") (List.mem_of_getElem? (i := 9) rfl)
  have fl66 := hts (.fieldLink RX12 66 "SlopeRunnerModel" "numbers" "[I") (List.mem_of_getElem? (i := 10) rfl)
  have kk_700 : (700 : Int32).toInt = 700 := rfl
  have fl118 := hts (.fieldLink RX12 118 "SlopeRunnerModel" "runAbove" "[J") (List.mem_of_getElem? (i := 11) rfl)
  have kk_8 : (8 : Int32).toInt = 8 := rfl
  have fl121 := hts (.fieldLink RX12 121 "SlopeRunnerModel" "runBelow" "[J") (List.mem_of_getElem? (i := 12) rfl)
  refine lv_aload_n hx hb dX12_goes_0 rfl (lv_at hl 0 rfl) ?_
  refine va_get (D := D) (ci := 11) (v := .ref (ad 24)) (C := RX12) (T := TX12) (N := 85) hx hb hts inX12 hown hK hP 0 mwd_o0 rfl 24 (by decide) fl60 (fun _ h9 => h9) rfl dX12_goes_1 ?_
  refine lv_iconst (v := 5) hx hb dX12_goes_4 (by decide) ?_
  refine va_iald hx hb hK hP 16 2 mwd_a16 rfl (x_in (by decide) (by decide)) dX12_goes_5 ?_
  refine lv_topi (fun i_1 ei_1 => ?_)
  have ei_1 : i_1 = (σ.2.2.1 24) (Int32.toNatClampNeg 5) := ei_1
  have gi_1 : i_1.toInt = (σ.2.2.1 24 5).toInt := by rw [ei_1]; rfl
  refine lv_istore_n (lv' := [(2, .int i_1), (0, .ref (ad 1)), (1, .int 1)]) hx hb dX12_goes_6 rfl hl (by decide) rfl (fun ls hl => ?_)
  refine lv_aload_n hx hb dX12_goes_7 rfl (lv_at hl 1 rfl) ?_
  refine va_get (D := D) (ci := 11) (v := .ref (ad 62)) (C := RX12) (T := TX12) (N := 85) hx hb hts inX12 hown hK hP 0 mwd_o0 rfl 62 (by decide) fl139 (fun _ h9 => h9) rfl dX12_goes_8 ?_
  refine lv_iload_n hx hb dX12_goes_11 rfl (lv_at hl 2 rfl) ?_
  refine lv_iconst (v := 0) hx hb dX12_goes_12 (by decide) ?_
  refine va_iast hx hb hK hP hD hS 42 2 mwd_a42 rfl (x_in (by decide) (by decide)) dX12_goes_13 (fun H locs hP hD hS => ?_)
  obtain ⟨f_2, ef_2⟩ : ∃ z9 : Nat → Int32, z9 = (upd (σ.2.2.1 62) (Int32.toNatClampNeg 1) 0) := ⟨_, rfl⟩
  have hP : va_P D vwCl (mwd y ad zw (tI σ 62 f_2)) H := by rw [ef_2]; exact x_trP hP mwd_s42
  have hD : va_D A (mwd y ad zw (tI σ 62 f_2)) := by rw [ef_2]; exact x_trD hD mwd_s42
  have hvf_2 : bI f_2 0 1760 := by rw [ef_2]; exact b_upd hB62 (by have h7 : (0 : Int32).toInt = 0 := rfl; omega) (by have h7 : (0 : Int32).toInt = 0 := rfl; omega)
  have sf_2 : (f_2 1).toInt = 0 := by rw [ef_2]; exact congrArg Int32.toInt (x_upd_same _ 1 _)
  refine lv_aload_n hx hb dX12_goes_14 rfl (lv_at hl 1 rfl) ?_
  refine va_get (D := D) (ci := 11) (v := .ref (ad 63)) (C := RX12) (T := TX12) (N := 85) hx hb hts inX12 hown hK hP 0 mwd_o0 rfl 63 (by decide) fl142 (fun _ h9 => h9) rfl dX12_goes_15 ?_
  refine lv_iload_n hx hb dX12_goes_18 rfl (lv_at hl 2 rfl) ?_
  refine lv_iconst (v := 0) hx hb dX12_goes_19 (by decide) ?_
  refine va_iast hx hb hK hP hD hS 43 2 mwd_a43 rfl (x_in (by decide) (by decide)) dX12_goes_20 (fun H locs hP hD hS => ?_)
  obtain ⟨f_3, ef_3⟩ : ∃ z9 : Nat → Int32, z9 = (upd (σ.2.2.1 63) (Int32.toNatClampNeg 1) 0) := ⟨_, rfl⟩
  have hP : va_P D vwCl (mwd y ad zw (tI (tI σ 62 f_2) 63 f_3)) H := by rw [ef_3]; exact x_trP hP mwd_s43
  have hD : va_D A (mwd y ad zw (tI (tI σ 62 f_2) 63 f_3)) := by rw [ef_3]; exact x_trD hD mwd_s43
  have hvf_3 : bI f_3 0 1000 := by rw [ef_3]; exact b_upd hB63 (by have h7 : (0 : Int32).toInt = 0 := rfl; omega) (by have h7 : (0 : Int32).toInt = 0 := rfl; omega)
  have sf_3 : (f_3 1).toInt = 0 := by rw [ef_3]; exact congrArg Int32.toInt (x_upd_same _ 1 _)
  refine lv_aload_n hx hb dX12_goes_21 rfl (lv_at hl 1 rfl) ?_
  refine va_get (D := D) (ci := 11) (v := .ref (ad 64)) (C := RX12) (T := TX12) (N := 85) hx hb hts inX12 hown hK hP 0 mwd_o0 rfl 64 (by decide) fl145 (fun _ h9 => h9) rfl dX12_goes_22 ?_
  refine lv_iload_n hx hb dX12_goes_25 rfl (lv_at hl 2 rfl) ?_
  refine lv_iconst (v := 0) hx hb dX12_goes_26 (by decide) ?_
  refine va_iast hx hb hK hP hD hS 44 2 mwd_a44 rfl (x_in (by decide) (by decide)) dX12_goes_27 (fun H locs hP hD hS => ?_)
  obtain ⟨f_4, ef_4⟩ : ∃ z9 : Nat → Int32, z9 = (upd (σ.2.2.1 64) (Int32.toNatClampNeg 1) 0) := ⟨_, rfl⟩
  have hP : va_P D vwCl (mwd y ad zw (tI (tI (tI σ 62 f_2) 63 f_3) 64 f_4)) H := by rw [ef_4]; exact x_trP hP mwd_s44
  have hD : va_D A (mwd y ad zw (tI (tI (tI σ 62 f_2) 63 f_3) 64 f_4)) := by rw [ef_4]; exact x_trD hD mwd_s44
  have hvf_4 : bI f_4 0 12 := by rw [ef_4]; exact b_upd hB64 (by have h7 : (0 : Int32).toInt = 0 := rfl; omega) (by have h7 : (0 : Int32).toInt = 0 := rfl; omega)
  have sf_4 : (f_4 1).toInt = 0 := by rw [ef_4]; exact congrArg Int32.toInt (x_upd_same _ 1 _)
  refine lv_aload_n hx hb dX12_goes_28 rfl (lv_at hl 1 rfl) ?_
  refine va_get (D := D) (ci := 11) (v := .ref (ad 66)) (C := RX12) (T := TX12) (N := 85) hx hb hts inX12 hown hK hP 0 mwd_o0 rfl 66 (by decide) fl151 (fun _ h9 => h9) rfl dX12_goes_29 ?_
  refine lv_iload_n hx hb dX12_goes_32 rfl (lv_at hl 2 rfl) ?_
  refine lv_iconst (v := 0) hx hb dX12_goes_33 (by decide) ?_
  refine va_iast hx hb hK hP hD hS 46 2 mwd_a46 rfl (x_in (by decide) (by decide)) dX12_goes_34 (fun H locs hP hD hS => ?_)
  obtain ⟨f_5, ef_5⟩ : ∃ z9 : Nat → Int32, z9 = (upd (σ.2.2.1 66) (Int32.toNatClampNeg 1) 0) := ⟨_, rfl⟩
  have hP : va_P D vwCl (mwd y ad zw (tI (tI (tI (tI σ 62 f_2) 63 f_3) 64 f_4) 66 f_5)) H := by rw [ef_5]; exact x_trP hP mwd_s46
  have hD : va_D A (mwd y ad zw (tI (tI (tI (tI σ 62 f_2) 63 f_3) 64 f_4) 66 f_5)) := by rw [ef_5]; exact x_trD hD mwd_s46
  refine lv_aload_n hx hb dX12_goes_35 rfl (lv_at hl 1 rfl) ?_
  refine va_get (D := D) (ci := 11) (v := .ref (ad 67)) (C := RX12) (T := TX12) (N := 85) hx hb hts inX12 hown hK hP 0 mwd_o0 rfl 67 (by decide) fl154 (fun _ h9 => h9) rfl dX12_goes_36 ?_
  refine lv_iload_n hx hb dX12_goes_39 rfl (lv_at hl 2 rfl) ?_
  refine lv_iconst (v := 0) hx hb dX12_goes_40 (by decide) ?_
  refine va_iast hx hb hK hP hD hS 47 2 mwd_a47 rfl (x_in (by decide) (by decide)) dX12_goes_41 (fun H locs hP hD hS => ?_)
  obtain ⟨f_6, ef_6⟩ : ∃ z9 : Nat → Int32, z9 = (upd (σ.2.2.1 67) (Int32.toNatClampNeg 1) 0) := ⟨_, rfl⟩
  have hP : va_P D vwCl (mwd y ad zw (tI (tI (tI (tI (tI σ 62 f_2) 63 f_3) 64 f_4) 66 f_5) 67 f_6)) H := by rw [ef_6]; exact x_trP hP mwd_s47
  have hD : va_D A (mwd y ad zw (tI (tI (tI (tI (tI σ 62 f_2) 63 f_3) 64 f_4) 66 f_5) 67 f_6)) := by rw [ef_6]; exact x_trD hD mwd_s47
  have sf_6 : (f_6 1).toInt = 0 := by rw [ef_6]; exact congrArg Int32.toInt (x_upd_same _ 1 _)
  refine lv_aload_n hx hb dX12_goes_42 rfl (lv_at hl 1 rfl) ?_
  refine lv_iconst (v := 0) hx hb dX12_goes_43 (by decide) ?_
  refine va_put (D := D) (ci := 11) (v := .int 0) (ty := .int) (C := RX12) (T := TX12) (N := 85) hx hb hts inX12 tyX12 tyX12_ok nmX12 hown hK hP hD hS 0 mwd_o0 rfl 73 (by decide) fl421 (fun _ h9 => h9) rfl (by decide +kernel) rfl rfl (Nat.le_of_ble_eq_true rfl) dX12_goes_44 (fun H locs hP hD hS => ?_)
  have hP : va_P D vwCl (mwd y ad zw (sI (tI (tI (tI (tI (tI σ 62 f_2) 63 f_3) 64 f_4) 66 f_5) 67 f_6) 73 0)) H := x_trP hP mwd_p0_73
  have hD : va_D A (mwd y ad zw (sI (tI (tI (tI (tI (tI σ 62 f_2) 63 f_3) 64 f_4) 66 f_5) 67 f_6) 73 0)) := x_trD hD mwd_p0_73
  refine lv_iload_n hx hb dX12_goes_47 rfl (lv_at hl 2 rfl) ?_
  refine lv_if_ne (tgt := 56) hx hb dX12_goes_48 (by decide) (fun c_7 => ?_) (fun c_7 => ?_)
  · refine lv_iconst (v := 0) hx hb dX12_goes_56 (by decide) ?_
    refine lv_istore_n (lv' := [(3, .int 0), (2, .int i_1), (0, .ref (ad 1)), (1, .int 1)]) hx hb dX12_goes_57 rfl hl (by decide) rfl (fun ls hl => ?_)
    have hP : va_P D vwCl (mwd y ad zw (tI (tI (tI (tI (tJ (tJ (sI (tI (tI (tI (tI σ 63 f_3) 64 f_4) 66 f_5) 67 f_6) 73 0) 57 (σ.2.2.2 57)) 58 (σ.2.2.2 58)) 59 (σ.2.2.1 59)) 60 (σ.2.2.1 60)) 61 (σ.2.2.1 61)) 62 f_2)) H := hP
    have hD : va_D A (mwd y ad zw (tI (tI (tI (tI (tJ (tJ (sI (tI (tI (tI (tI σ 63 f_3) 64 f_4) 66 f_5) 67 f_6) 73 0) 57 (σ.2.2.2 57)) 58 (σ.2.2.2 58)) 59 (σ.2.2.1 59)) 60 (σ.2.2.1 60)) 61 (σ.2.2.1 61)) 62 f_2)) := hD
    have loop : ∀ (fu : Nat) (j : Int32) (f1 : Nat → Int64) (f2 : Nat → Int64) (f3 : Nat → Int32) (f4 : Nat → Int32) (f5 : Nat → Int32) (f6 : Nat → Int32) (H : Heap) (locs : List Loc) (ls : Array Slot), (0 ≤ j.toInt) → (j.toInt ≤ i_1.toInt) → (bJ f1 (-1000000000) 1000000000) → (bJ f2 0 1000000000) → (opc f3 f4 f5) → (bI f6 0 1760) → ((f6 1).toInt = j.toInt) → (i_1.toInt - j.toInt < (fu : Int)) → va_P D vwCl (mwd y ad zw (tI (tI (tI (tI (tJ (tJ (sI (tI (tI (tI (tI σ 63 f_3) 64 f_4) 66 f_5) 67 f_6) 73 0) 57 f1) 58 f2) 59 f3) 60 f4) 61 f5) 62 f6)) H → va_D A (mwd y ad zw (tI (tI (tI (tI (tJ (tJ (sI (tI (tI (tI (tI σ 63 f_3) 64 f_4) 66 f_5) 67 f_6) 73 0) 57 f1) 58 f2) 59 f3) 60 f4) 61 f5) 62 f6)) → va_S A s.heap H locs → lv_has ls 4 [(3, .int j), (2, .int i_1), (1, .int 1), (0, .ref (ad 1))] → W p l e ({ frames := 6, cells := 0, slots := 0, locals := 166 } : Room) s m ([.ref (ad 1), .int 1] : List Value).toArray below meth c H locs 0 0 Q (F0 m 58 ls []) := by
      intro fu
      induction fu with
      | zero =>
        intro j f1 f2 f3 f4 f5 f6 H locs ls hj0 hj1 hf1 hf2 ho hf6 hla hm
        exact absurd hm (by omega)
      | succ fu ih_loop =>
        intro j f1 f2 f3 f4 f5 f6 H locs ls hj0 hj1 hf1 hf2 ho hf6 hla hm hP hD hS hl
        refine lv_iload_n hx hb dX12_goes_58 rfl (lv_at hl 0 rfl) ?_
        refine lv_iload_n hx hb dX12_goes_59 rfl (lv_at hl 1 rfl) ?_
        refine lv_icmp_ge (tgt := 99) hx hb dX12_goes_60 (by decide) (fun c_8 => ?_) (fun c_8 => ?_)
        · have kc_8 : j.toInt ≥ i_1.toInt := by have h9 := c_8; simp only [ge_iff_le, gt_iff_lt, x_lt, x_le, x_eq, ne_eq, Int32.not_lt, Int32.not_le] at h9; omega
          refine lv_aload_n hx hb dX12_goes_99 rfl (lv_at hl 3 rfl) ?_
          refine lv_iload_n hx hb dX12_goes_100 rfl (lv_at hl 2 rfl) ?_
          refine lv_lconst (v := 0) hx hb dX12_goes_101 (by decide) ?_
          refine lv_lconst (v := 1) hx hb dX12_goes_102 (by decide) ?_
          refine lv_iconst (v := 0) hx hb dX12_goes_103 (by decide) ?_
          refine lv_iconst (v := (-1)) hx hb dX12_goes_104 (by decide) ?_
          refine lv_iconst (v := (-1)) hx hb dX12_goes_105 (by decide) ?_
          refine x_callvW (va_runV (As := [.int 1, .long 0, .long 1, .int 0, .int (-1), .int (-1)]) (rest := []) ⟨hx, hb, hml, hown, hts⟩ (q_lays1 l D y H.size ad zw (tI (tI (tI (tI (tJ (tJ (sI (tI (tI (tI (tI σ 63 f_3) 64 f_4) 66 f_5) 67 f_6) 73 0) 57 f1) 58 f2) 59 f3) 60 f4) 61 f5) 62 f6) 0 1 0 (-1) (-1) (by first | omega | decide) (by first | omega | decide) (by first | omega | decide) (by first | omega | decide) ho (fun h9 => absurd rfl h9) (show 0 ≤ (f6 1).toInt from by first | omega | decide) (show (f6 1).toInt < 1760 from by first | omega | decide) hf1 hf2 hf6) (cwV 6 hts g_q_goes1_0 rfl rfl rfl (by decide +kernel) ⟨Nat.le_of_ble_eq_true rfl, Nat.le_of_ble_eq_true rfl⟩) (x_preV (q := (RX12, TX12, 85)) hK hP hD (ci := 11) (q0 := 0) rfl mwd_o0) rfl rfl hl.1 rfl (lv_room (Nat.le_of_ble_eq_true rfl)) dX12_goes_106 ⟨Nat.le_of_ble_eq_true rfl, Nat.le_of_ble_eq_true rfl⟩) hP hD hS hA (fun u H locs hw hP hD hS => ?_)
          obtain ⟨f_9, f_10, f_11, f_12, f_13, f_14⟩ := u
          try dsimp only at hw
          have hP : va_P D vwCl (mwd y ad zw (tI (tI (tI (tI (tJ (tJ (tI (tI (tI (tI (tJ (tJ (sI (tI (tI (tI (tI σ 63 f_3) 64 f_4) 66 f_5) 67 f_6) 73 0) 57 f1) 58 f2) 59 f3) 60 f4) 61 f5) 62 f6) 57 f_9) 58 f_10) 59 f_11) 60 f_12) 61 f_13) 62 f_14)) H := hP
          have hD : va_D A (mwd y ad zw (tI (tI (tI (tI (tJ (tJ (tI (tI (tI (tI (tJ (tJ (sI (tI (tI (tI (tI σ 63 f_3) 64 f_4) 66 f_5) 67 f_6) 73 0) 57 f1) 58 f2) 59 f3) 60 f4) 61 f5) 62 f6) 57 f_9) 58 f_10) 59 f_11) 60 f_12) 61 f_13) 62 f_14)) := hD
          have hw : (opc f_11 f_12 f_13 ∧ (f_14 1).toInt = (f6 1).toInt + 1 ∧ f_14 0 = f6 0) ∧ bJ f_9 (-1000000000) 1000000000 ∧ bJ f_10 0 1000000000 ∧ bI f_14 0 1760 := hw
          obtain ⟨hw, hg_15, hg_16, hg_17⟩ := hw
          obtain ⟨ho9, hl9, hl8⟩ := hw
          refine lv_iconst (v := 0) hx hb dX12_goes_109 (by decide) ?_
          refine lv_istore_n (lv' := [(3, .int 0), (2, .int i_1), (1, .int 1), (0, .ref (ad 1))]) hx hb dX12_goes_110 rfl hl (by decide) rfl (fun ls hl => ?_)
          have hP : va_P D vwCl (mwd y ad zw (tI (tI (tI (tI (tJ (tJ (sI (tI (tI (tI (tI σ 63 f_3) 64 f_4) 66 f_5) 67 f_6) 73 0) 57 f_9) 58 f_10) 59 f_11) 60 f_12) 61 f_13) 62 f_14)) H := hP
          have hD : va_D A (mwd y ad zw (tI (tI (tI (tI (tJ (tJ (sI (tI (tI (tI (tI σ 63 f_3) 64 f_4) 66 f_5) 67 f_6) 73 0) 57 f_9) 58 f_10) 59 f_11) 60 f_12) 61 f_13) 62 f_14)) := hD
          have loop2 : ∀ (fu : Nat) (j : Int32) (f1 : Nat → Int64) (f2 : Nat → Int64) (f3 : Nat → Int32) (f4 : Nat → Int32) (f5 : Nat → Int32) (f6 : Nat → Int32) (H : Heap) (locs : List Loc) (ls : Array Slot), (0 ≤ j.toInt) → (j.toInt ≤ (σ.2.2.1 24 9).toInt) → (bJ f1 (-1000000000) 1000000000) → (bJ f2 0 1000000000) → (opc f3 f4 f5) → (bI f6 0 1760) → ((f6 1).toInt = i_1.toInt + 1 + j.toInt) → ((σ.2.2.1 24 9).toInt - j.toInt < (fu : Int)) → va_P D vwCl (mwd y ad zw (tI (tI (tI (tI (tJ (tJ (sI (tI (tI (tI (tI σ 63 f_3) 64 f_4) 66 f_5) 67 f_6) 73 0) 57 f1) 58 f2) 59 f3) 60 f4) 61 f5) 62 f6)) H → va_D A (mwd y ad zw (tI (tI (tI (tI (tJ (tJ (sI (tI (tI (tI (tI σ 63 f_3) 64 f_4) 66 f_5) 67 f_6) 73 0) 57 f1) 58 f2) 59 f3) 60 f4) 61 f5) 62 f6)) → va_S A s.heap H locs → lv_has ls 4 [(3, .int j), (2, .int i_1), (1, .int 1), (0, .ref (ad 1))] → W p l e ({ frames := 6, cells := 0, slots := 0, locals := 166 } : Room) s m ([.ref (ad 1), .int 1] : List Value).toArray below meth c H locs 0 0 Q (F0 m 111 ls []) := by
            intro fu
            induction fu with
            | zero =>
              intro j f1 f2 f3 f4 f5 f6 H locs ls hj0 hj1 hf1 hf2 ho hf6 hla hm
              exact absurd hm (by omega)
            | succ fu ih_loop2 =>
              intro j f1 f2 f3 f4 f5 f6 H locs ls hj0 hj1 hf1 hf2 ho hf6 hla hm hP hD hS hl
              refine lv_iload_n hx hb dX12_goes_111 rfl (lv_at hl 0 rfl) ?_
              refine lv_aload_n hx hb dX12_goes_112 rfl (lv_at hl 3 rfl) ?_
              refine va_get (D := D) (ci := 11) (v := .ref (ad 24)) (C := RX12) (T := TX12) (N := 85) hx hb hts inX12 hown hK hP 0 mwd_o0 rfl 24 (by decide) fl60 (fun _ h9 => h9) rfl dX12_goes_113 ?_
              refine lv_bipush (v := 9) hx hb dX12_goes_116 (by decide) ?_
              refine va_iald hx hb hK hP 16 2 mwd_a16 rfl (x_in (by decide) (by decide)) dX12_goes_118 ?_
              refine lv_topi (fun i_18 ei_18 => ?_)
              have ei_18 : i_18 = (σ.2.2.1 24) (Int32.toNatClampNeg 9) := ei_18
              have gi_18 : i_18.toInt = (σ.2.2.1 24 9).toInt := by rw [ei_18]; rfl
              refine lv_icmp_ge (tgt := 148) hx hb dX12_goes_119 (by decide) (fun c_19 => ?_) (fun c_19 => ?_)
              · have kc_19 : j.toInt ≥ i_18.toInt := by have h9 := c_19; simp only [ge_iff_le, gt_iff_lt, x_lt, x_le, x_eq, ne_eq, Int32.not_lt, Int32.not_le] at h9; omega
                obtain ⟨fh, efh⟩ : ∃ z9 : Nat → Int32, z9 = (fun k => if k < 84 then (σ.2.2.1 71) k else 0) := ⟨_, rfl⟩
                have hP : va_P D vwCl (mwd y ad zw (tI (tI (tI (tI (tI (tJ (tJ (sI (tI (tI (tI (tI σ 63 f_3) 64 f_4) 66 f_5) 67 f_6) 73 0) 57 f1) 58 f2) 59 f3) 60 f4) 61 f5) 62 f6) 71 fh)) H := x_trP (x_ext hP mwd_a48 (g := fh) (fun k hk9 => by rw [efh]; exact (if_pos hk9).symm)) mwd_s48
                have hD : va_D A (mwd y ad zw (tI (tI (tI (tI (tI (tJ (tJ (sI (tI (tI (tI (tI σ 63 f_3) 64 f_4) 66 f_5) 67 f_6) 73 0) 57 f1) 58 f2) 59 f3) 60 f4) 61 f5) 62 f6) 71 fh)) := x_trD (x_extD hD mwd_a48 (g := fh)) mwd_s48
                have hfh : ∀ k, 84 ≤ k → (fh k).toInt = 0 := fun k hk9 => by rw [efh]; show (if k < 84 then _ else _ : Int32).toInt = 0; rw [if_neg (by omega)]; rfl
                refine lv_iconst (v := 0) hx hb dX12_goes_148 (by decide) ?_
                refine lv_istore_n (lv' := [(3, .int 0), (2, .int i_1), (1, .int 1), (0, .ref (ad 1))]) hx hb dX12_goes_149 rfl hl (by decide) rfl (fun ls hl => ?_)
                have loop3 : ∀ (fu : Nat) (j : Int32) (g : Nat → Int32) (H : Heap) (locs : List Loc) (ls : Array Slot), (0 ≤ j.toInt) → (j.toInt ≤ 84) → (∀ k : Nat, ((k : Int) < j.toInt ∨ 84 ≤ k) → 0 ≤ (g k).toInt ∧ (g k).toInt ≤ i_1.toInt) → (84 - j.toInt < (fu : Int)) → va_P D vwCl (mwd y ad zw (tI (tI (tI (tI (tI (tJ (tJ (sI (tI (tI (tI (tI σ 63 f_3) 64 f_4) 66 f_5) 67 f_6) 73 0) 57 f1) 58 f2) 59 f3) 60 f4) 61 f5) 62 f6) 71 g)) H → va_D A (mwd y ad zw (tI (tI (tI (tI (tI (tJ (tJ (sI (tI (tI (tI (tI σ 63 f_3) 64 f_4) 66 f_5) 67 f_6) 73 0) 57 f1) 58 f2) 59 f3) 60 f4) 61 f5) 62 f6) 71 g)) → va_S A s.heap H locs → lv_has ls 4 [(3, .int j), (2, .int i_1), (1, .int 1), (0, .ref (ad 1))] → W p l e ({ frames := 6, cells := 0, slots := 0, locals := 166 } : Room) s m ([.ref (ad 1), .int 1] : List Value).toArray below meth c H locs 0 0 Q (F0 m 150 ls []) := by
                  intro fu
                  induction fu with
                  | zero =>
                    intro j g H locs ls hj0 hj1 hg hm
                    exact absurd hm (by omega)
                  | succ fu ih_loop3 =>
                    intro j g H locs ls hj0 hj1 hg hm hP hD hS hl
                    refine lv_iload_n hx hb dX12_goes_150 rfl (lv_at hl 0 rfl) ?_
                    refine lv_bipush (v := 84) hx hb dX12_goes_151 (by decide) ?_
                    refine lv_icmp_ge (tgt := 178) hx hb dX12_goes_153 (by decide) (fun c_20 => ?_) (fun c_20 => ?_)
                    · have kc_20 : j.toInt ≥ 84 := by have h9 := c_20; simp only [ge_iff_le, gt_iff_lt, x_lt, x_le, x_eq, ne_eq, Int32.not_lt, Int32.not_le] at h9; simp only [Int32.reduceToInt] at h9; omega
                      refine lv_iconst (v := 0) hx hb dX12_goes_178 (by decide) ?_
                      refine lv_istore_n (lv' := [(3, .int 0), (2, .int i_1), (1, .int 1), (0, .ref (ad 1))]) hx hb dX12_goes_179 rfl hl (by decide) rfl (fun ls hl => ?_)
                      have hh4 : bI g 0 (i_1.toInt) := fun k => hg k (by omega)
                      have hP : va_P D vwCl (mwd y ad zw (tI (tI (tI (tI (tI (tI (tI (tJ (tJ (sJ (sJ (sI (sJ (sJ (sI (tI (tI (tI (tI (sI σ 73 0) 72 (σ.2.2.1 72)) 63 f_3) 67 f_6) 66 f_5) 44 (σ.1 44)) 42 (σ.2.1 42)) 43 (σ.2.1 43)) 68 (σ.1 68)) 69 (σ.2.1 69)) 70 (σ.2.1 70)) 57 f1) 58 f2) 59 f3) 60 f4) 61 f5) 62 f6) 71 g) 64 f_4) 65 (σ.2.2.1 65))) H := hP
                      have hD : va_D A (mwd y ad zw (tI (tI (tI (tI (tI (tI (tI (tJ (tJ (sJ (sJ (sI (sJ (sJ (sI (tI (tI (tI (tI (sI σ 73 0) 72 (σ.2.2.1 72)) 63 f_3) 67 f_6) 66 f_5) 44 (σ.1 44)) 42 (σ.2.1 42)) 43 (σ.2.1 43)) 68 (σ.1 68)) 69 (σ.2.1 69)) 70 (σ.2.1 70)) 57 f1) 58 f2) 59 f3) 60 f4) 61 f5) 62 f6) 71 g) 64 f_4) 65 (σ.2.2.1 65))) := hD
                      have loop4 : ∀ (fu : Nat) (j : Int32) (mu : Int) (pl : Int32) (fp : Nat → Int32) (fs : Nat → Int32) (fst : Nat → Int32) (fe : Nat → Int32) (n1 : Int32) (j1 : Int64) (j2 : Int64) (n2 : Int32) (j3 : Int64) (j4 : Int64) (f1 : Nat → Int64) (f2 : Nat → Int64) (f3 : Nat → Int32) (f4 : Nat → Int32) (f5 : Nat → Int32) (f6 : Nat → Int32) (fh4 : Nat → Int32) (fr : Nat → Int32) (fra : Nat → Int32) (H : Heap) (locs : List Loc) (ls : Array Slot), (bJ f1 (-1000000000) 1000000000) → (bJ f2 0 1000000000) → (opc f3 f4 f5) → (bI f6 0 1760) → (bI fs 0 1000) → (bI fr 0 12) → (bI fra 0 1759) → (((σ.2.2.1 24 5).toInt + 1 + (σ.2.2.1 24 9).toInt) ≤ (f6 1).toInt ∧ (f6 1).toInt - (fs 1).toInt ≤ ((σ.2.2.1 24 5).toInt + 1 + (σ.2.2.1 24 9).toInt)) → (0 ≤ mu) → ((fst 1).toInt ≠ 0 ∨ ∃ (i : Nat) (T : List Bool) (bb : Bool), j.toInt = (i : Int) ∧ ty i = some (T, bb) ∧ pl.toInt = (T.length : Int) ∧ PT T fp (f6 1).toInt ∧ bI fh4 0 ((f6 1).toInt - 1) ∧ MU i bb (fs 1).toInt ≤ mu) → (mu < (fu : Int)) → va_P D vwCl (mwd y ad zw (tI (tI (tI (tI (tI (tI (tI (tJ (tJ (sJ (sJ (sI (sJ (sJ (sI (tI (tI (tI (tI (sI σ 73 pl) 72 fp) 63 fs) 67 fst) 66 fe) 44 n1) 42 j1) 43 j2) 68 n2) 69 j3) 70 j4) 57 f1) 58 f2) 59 f3) 60 f4) 61 f5) 62 f6) 71 fh4) 64 fr) 65 fra)) H → va_D A (mwd y ad zw (tI (tI (tI (tI (tI (tI (tI (tJ (tJ (sJ (sJ (sI (sJ (sJ (sI (tI (tI (tI (tI (sI σ 73 pl) 72 fp) 63 fs) 67 fst) 66 fe) 44 n1) 42 j1) 43 j2) 68 n2) 69 j3) 70 j4) 57 f1) 58 f2) 59 f3) 60 f4) 61 f5) 62 f6) 71 fh4) 64 fr) 65 fra)) → va_S A s.heap H locs → lv_has ls 4 [(3, .int j), (2, .int i_1), (1, .int 1), (0, .ref (ad 1))] → W p l e ({ frames := 6, cells := 0, slots := 0, locals := 166 } : Room) s m ([.ref (ad 1), .int 1] : List Value).toArray below meth c H locs 0 0 Q (F0 m 180 ls []) := by
                        intro fu
                        induction fu with
                        | zero =>
                          intro j mu pl fp fs fst fe n1 j1 j2 n2 j3 j4 f1 f2 f3 f4 f5 f6 fh4 fr fra H locs ls hf1 hf2 ho hf6 hs hrr hra hlc hmu hI hm
                          exact absurd hm (by omega)
                        | succ fu ih_loop4 =>
                          intro j mu pl fp fs fst fe n1 j1 j2 n2 j3 j4 f1 f2 f3 f4 f5 f6 fh4 fr fra H locs ls hf1 hf2 ho hf6 hs hrr hra hlc hmu hI hm hP hD hS hl
                          refine lv_iload_n hx hb dX12_goes_180 rfl (lv_at hl 0 rfl) ?_
                          refine lv_aload_n hx hb dX12_goes_181 rfl (lv_at hl 3 rfl) ?_
                          refine va_get (D := D) (ci := 11) (v := .ref (ad 28)) (C := RX12) (T := TX12) (N := 85) hx hb hts inX12 hown hK hP 0 mwd_o0 rfl 28 (by decide) fl72 (fun _ h9 => h9) rfl dX12_goes_182 ?_
                          refine lv_iconst (v := 1) hx hb dX12_goes_185 (by decide) ?_
                          refine va_iald hx hb hK hP 20 2 mwd_a20 rfl (x_in (by decide) (by decide)) dX12_goes_186 ?_
                          refine lv_topi (fun i_21 ei_21 => ?_)
                          have ei_21 : i_21 = (σ.2.2.1 28) (Int32.toNatClampNeg 1) := ei_21
                          have gi_21 : i_21.toInt = (n : Int) := by rw [ei_21]; exact hcm
                          refine lv_icmp_ge (tgt := 209) hx hb dX12_goes_187 (by decide) (fun c_22 => ?_) (fun c_22 => ?_)
                          · have kc_22 : j.toInt ≥ i_21.toInt := by have h9 := c_22; simp only [ge_iff_le, gt_iff_lt, x_lt, x_le, x_eq, ne_eq, Int32.not_lt, Int32.not_le] at h9; omega
                            exact x_vretW (u := (pl, fp, fs, fst, fe, n1, j1, j2, n2, j3, j4, f1, f2, f3, f4, f5, f6, fh4, fr, fra)) hx hb hr hQ (by (try dsimp only); exact ⟨ho, hf1, hf2, hf6, hs, hrr, hra⟩) hP hD hK hS dX12_goes_209 hlocks
                          · have kc_22 : j.toInt < i_21.toInt := by have h9 := c_22; simp only [ge_iff_le, gt_iff_lt, x_lt, x_le, x_eq, ne_eq, Int32.not_lt, Int32.not_le] at h9; omega
                            refine lv_aload_n hx hb dX12_goes_190 rfl (lv_at hl 3 rfl) ?_
                            refine va_get (D := D) (ci := 11) (v := .ref (ad 67)) (C := RX12) (T := TX12) (N := 85) hx hb hts inX12 hown hK hP 0 mwd_o0 rfl 67 (by decide) fl154 (fun _ h9 => h9) rfl dX12_goes_191 ?_
                            refine lv_iload_n hx hb dX12_goes_194 rfl (lv_at hl 2 rfl) ?_
                            refine va_iald hx hb hK hP 47 2 mwd_a47 rfl (x_in (by decide) (by decide)) dX12_goes_195 ?_
                            refine lv_topi (fun i_23 ei_23 => ?_)
                            have ei_23 : i_23 = fst (Int32.toNatClampNeg 1) := ei_23
                            have gi_23 : i_23.toInt = (fst 1).toInt := by rw [ei_23]; rfl
                            refine lv_if_ne (tgt := 209) hx hb dX12_goes_196 (by decide) (fun c_24 => ?_) (fun c_24 => ?_)
                            · have kc_24 : i_23.toInt ≠ 0 := by have h9 := c_24; simp only [ge_iff_le, gt_iff_lt, x_lt, x_le, x_eq, ne_eq, Int32.not_lt, Int32.not_le] at h9; simp only [Int32.reduceToInt] at h9; omega
                              exact x_vretW (u := (pl, fp, fs, fst, fe, n1, j1, j2, n2, j3, j4, f1, f2, f3, f4, f5, f6, fh4, fr, fra)) hx hb hr hQ (by (try dsimp only); exact ⟨ho, hf1, hf2, hf6, hs, hrr, hra⟩) hP hD hK hS dX12_goes_209 hlocks
                            · have kc_24 : i_23.toInt = 0 := by have h9 := c_24; simp only [ge_iff_le, gt_iff_lt, x_lt, x_le, x_eq, ne_eq, Int32.not_lt, Int32.not_le] at h9; simp only [Int32.reduceToInt] at h9; omega
                              refine lv_aload_n hx hb dX12_goes_199 rfl (lv_at hl 3 rfl) ?_
                              refine lv_iload_n hx hb dX12_goes_200 rfl (lv_at hl 2 rfl) ?_
                              refine lv_iload_n hx hb dX12_goes_201 rfl (lv_at hl 0 rfl) ?_
                              obtain ⟨i, T, bb, hk1, hk2, hk3, hk4, hk5, hk6⟩ := hI.resolve_left (fun h9 => h9 (by omega))
                              have hm9 := (MU_0 i bb (fs 1).toInt).1
                              have hs9 := hs 1
                              refine x_calliW (va_runV (As := [.int 1, .int j]) (rest := []) ⟨hx, hb, hml, hown, hts⟩ (q_does1 l D y H.size ad zw (tI (tI (tI (tI (tI (tI (tI (tJ (tJ (sJ (sJ (sI (sJ (sJ (sI (tI (tI (tI (tI (sI σ 73 pl) 72 fp) 63 fs) 67 fst) 66 fe) 44 n1) 42 j1) 43 j2) 68 n2) 69 j3) 70 j4) 57 f1) 58 f2) 59 f3) 60 f4) 61 f5) 62 f6) 71 fh4) 64 fr) 65 fra) i n j T bb ty hk1 (by first | omega | decide) (by first | omega | decide) hk2 hW hk3 hk4 hk5 (show ((σ.2.2.1 24) 5).toInt + 1 + ((σ.2.2.1 24) 9).toInt ≤ (f6 1).toInt from by first | omega | decide) h5 ho (show (f6 1).toInt < 1760 from by first | omega | decide) hf1 hf2 hf6 hs hB25 hrr hra) (cwV 2 hts g_q_goes1_1 rfl rfl rfl (by decide +kernel) ⟨Nat.le_of_ble_eq_true rfl, Nat.le_of_ble_eq_true rfl⟩) (x_preV (q := (RX12, TX12, 85)) hK hP hD (ci := 11) (q0 := 0) rfl mwd_o0) rfl rfl hl.1 rfl (lv_room (Nat.le_of_ble_eq_true rfl)) dX12_goes_202 ⟨Nat.le_of_ble_eq_true rfl, Nat.le_of_ble_eq_true rfl⟩) hP hD hS hA (fun r_25 u H locs hw hP hD hS => ?_)
                              obtain ⟨n_26, f_27, f_28, f_29, f_30, n_31, j_32, j_33, n_34, j_35, j_36, f_37, f_38, f_39, f_40, f_41, f_42, f_43, f_44, f_45⟩ := u
                              try dsimp only at hw
                              have hP : va_P D vwCl (mwd y ad zw (tI (tI (tI (tI (tI (tI (tI (tJ (tJ (sJ (sJ (sI (sJ (sJ (sI (tI (tI (tI (tI (sI (tI (tI (tI (tI (tI (tI (tI (tJ (tJ (sJ (sJ (sI (sJ (sJ (sI (tI (tI (tI (tI (sI σ 73 pl) 72 fp) 63 fs) 67 fst) 66 fe) 44 n1) 42 j1) 43 j2) 68 n2) 69 j3) 70 j4) 57 f1) 58 f2) 59 f3) 60 f4) 61 f5) 62 f6) 71 fh4) 64 fr) 65 fra) 73 n_26) 72 f_27) 63 f_28) 67 f_29) 66 f_30) 44 n_31) 42 j_32) 43 j_33) 68 n_34) 69 j_35) 70 j_36) 57 f_37) 58 f_38) 59 f_39) 60 f_40) 61 f_41) 62 f_42) 71 f_43) 64 f_44) 65 f_45)) H := hP
                              have hD : va_D A (mwd y ad zw (tI (tI (tI (tI (tI (tI (tI (tJ (tJ (sJ (sJ (sI (sJ (sJ (sI (tI (tI (tI (tI (sI (tI (tI (tI (tI (tI (tI (tI (tJ (tJ (sJ (sJ (sI (sJ (sJ (sI (tI (tI (tI (tI (sI σ 73 pl) 72 fp) 63 fs) 67 fst) 66 fe) 44 n1) 42 j1) 43 j2) 68 n2) 69 j3) 70 j4) 57 f1) 58 f2) 59 f3) 60 f4) 61 f5) 62 f6) 71 fh4) 64 fr) 65 fra) 73 n_26) 72 f_27) 63 f_28) 67 f_29) 66 f_30) 44 n_31) 42 j_32) 43 j_33) 68 n_34) 69 j_35) 70 j_36) 57 f_37) 58 f_38) 59 f_39) 60 f_40) 61 f_41) 62 f_42) 71 f_43) 64 f_44) 65 f_45)) := hD
                              have hw : (((f_29 1).toInt ≠ 0 ∨ ∃ (j : Nat) (T1 : List Bool) (b1 : Bool), r_25.toInt = (j : Int) ∧ ty j = some (T1, b1) ∧ n_26.toInt = (T1.length : Int) ∧ PT T1 f_27 (f_42 1).toInt ∧ bI f_43 0 ((f_42 1).toInt - 1) ∧ MU j b1 (f_28 1).toInt < MU i bb (fs 1).toInt ∧ f_29 = fst) ∧ opc f_39 f_40 f_41 ∧ (f6 1).toInt ≤ (f_42 1).toInt ∧ (f_42 1).toInt - (f6 1).toInt ≤ (f_28 1).toInt - (fs 1).toInt ∧ f_42 0 = f6 0) ∧ bJ f_37 (-1000000000) 1000000000 ∧ bJ f_38 0 1000000000 ∧ bI f_42 0 1760 ∧ bI f_28 0 1000 ∧ bI f_44 0 12 ∧ bI f_45 0 1759 := hw
                              obtain ⟨hw, hg_46, hg_47, hg_48, hg_49, hg_50, hg_51⟩ := hw
                              obtain ⟨hI9, ho9, hl9, hl8, hl7⟩ := hw
                              refine lv_istore_n (lv' := [(3, .int r_25), (2, .int i_1), (1, .int 1), (0, .ref (ad 1))]) hx hb dX12_goes_205 rfl hl (by decide) rfl (fun ls hl => ?_)
                              refine lv_goto (tgt := 180) hx hb dX12_goes_206 (by decide) ?_
                              have hP : va_P D vwCl (mwd y ad zw (tI (tI (tI (tI (tI (tI (tI (tJ (tJ (sJ (sJ (sI (sJ (sJ (sI (tI (tI (tI (tI (sI σ 73 n_26) 72 f_27) 63 f_28) 67 f_29) 66 f_30) 44 n_31) 42 j_32) 43 j_33) 68 n_34) 69 j_35) 70 j_36) 57 f_37) 58 f_38) 59 f_39) 60 f_40) 61 f_41) 62 f_42) 71 f_43) 64 f_44) 65 f_45)) H := hP
                              have hD : va_D A (mwd y ad zw (tI (tI (tI (tI (tI (tI (tI (tJ (tJ (sJ (sJ (sI (sJ (sJ (sI (tI (tI (tI (tI (sI σ 73 n_26) 72 f_27) 63 f_28) 67 f_29) 66 f_30) 44 n_31) 42 j_32) 43 j_33) 68 n_34) 69 j_35) 70 j_36) 57 f_37) 58 f_38) 59 f_39) 60 f_40) 61 f_41) 62 f_42) 71 f_43) 64 f_44) 65 f_45)) := hD
                              exact ih_loop4 r_25 (mu - 1) n_26 f_27 f_28 f_29 f_30 n_31 j_32 j_33 n_34 j_35 j_36 f_37 f_38 f_39 f_40 f_41 f_42 f_43 f_44 f_45 H locs ls hg_46 hg_47 ho9 hg_48 hg_49 hg_50 hg_51 (by omega) (by omega) (hI9.elim Or.inl (fun ⟨i9, T9, b9, e1, e2, e3, e4, e5, e6, e7⟩ => Or.inr ⟨i9, T9, b9, e1, e2, e3, e4, e5, by omega⟩)) (by omega) hP hD hS (lv_sub hl [0, 1, 2, 3] rfl)
                      exact loop4 2405000 0 2404500 0 (σ.2.2.1 72) f_3 f_6 f_5 (σ.1 44) (σ.2.1 42) (σ.2.1 43) (σ.1 68) (σ.2.1 69) (σ.2.1 70) f1 f2 f3 f4 f5 f6 g f_4 (σ.2.2.1 65) H locs ls hf1 hf2 ho hf6 hvf_3 hvf_4 hB65 (by omega) (by decide) (hW.1.elim (fun b0 hb09 => Or.inr ⟨0, [], b0, rfl, hb09, by omega, trivial, bI_mono hh4 (by omega), by have h7 := (MU_0 0 b0 (f_3 1).toInt).2; omega⟩)) (by omega) hP hD hS (lv_sub hl [0, 1, 2, 3] rfl)
                    · have kc_20 : j.toInt < 84 := by have h9 := c_20; simp only [ge_iff_le, gt_iff_lt, x_lt, x_le, x_eq, ne_eq, Int32.not_lt, Int32.not_le] at h9; simp only [Int32.reduceToInt] at h9; omega
                      refine lv_aload_n hx hb dX12_goes_156 rfl (lv_at hl 3 rfl) ?_
                      refine va_get (D := D) (ci := 11) (v := .ref (ad 71)) (C := RX12) (T := TX12) (N := 85) hx hb hts inX12 hown hK hP 0 mwd_o0 rfl 71 (by decide) fl157 (fun _ h9 => h9) rfl dX12_goes_157 ?_
                      refine lv_iload_n hx hb dX12_goes_160 rfl (lv_at hl 0 rfl) ?_
                      refine lv_iload_n hx hb dX12_goes_161 rfl (lv_at hl 0 rfl) ?_
                      refine lv_iload_n hx hb dX12_goes_162 rfl (lv_at hl 1 rfl) ?_
                      refine lv_icmp_ge (tgt := 170) hx hb dX12_goes_163 (by decide) (fun c_52 => ?_) (fun c_52 => ?_)
                      · have kc_52 : j.toInt ≥ i_1.toInt := by have h9 := c_52; simp only [ge_iff_le, gt_iff_lt, x_lt, x_le, x_eq, ne_eq, Int32.not_lt, Int32.not_le] at h9; omega
                        refine lv_iload_n hx hb dX12_goes_170 rfl (lv_at hl 1 rfl) ?_
                        refine va_iast hx hb hK hP hD hS 48 2 mwd_a48 rfl (x_in (by omega) (by omega)) dX12_goes_171 (fun H locs hP hD hS => ?_)
                        obtain ⟨f_53, ef_53⟩ : ∃ z9 : Nat → Int32, z9 = (upd g (Int32.toNatClampNeg j) i_1) := ⟨_, rfl⟩
                        have hP : va_P D vwCl (mwd y ad zw (tI (tI (tI (tI (tI (tI (tJ (tJ (sI (tI (tI (tI (tI σ 63 f_3) 64 f_4) 66 f_5) 67 f_6) 73 0) 57 f1) 58 f2) 59 f3) 60 f4) 61 f5) 62 f6) 71 g) 71 f_53)) H := by rw [ef_53]; exact x_trP hP mwd_s48
                        have hD : va_D A (mwd y ad zw (tI (tI (tI (tI (tI (tI (tJ (tJ (sI (tI (tI (tI (tI σ 63 f_3) 64 f_4) 66 f_5) 67 f_6) 73 0) 57 f1) 58 f2) 59 f3) 60 f4) 61 f5) 62 f6) 71 g) 71 f_53)) := by rw [ef_53]; exact x_trD hD mwd_s48
                        obtain ⟨i_54, ei_54⟩ : ∃ z9 : Int32, z9 = j + 1 := ⟨_, rfl⟩
                        have vi_54 : i_54.toInt = j.toInt + 1 := by have h9 := x_add ei_54 (by omega) (by omega); omega
                        refine lv_iinc (v := i_54) (lv' := [(3, .int i_54), (2, .int i_1), (1, .int 1), (0, .ref (ad 1))]) hx hb dX12_goes_172 hl (k := 0) rfl (by rw [ei_54]; rfl) (by decide) rfl (fun ls hl => ?_)
                        refine lv_goto (tgt := 150) hx hb dX12_goes_175 (by decide) ?_
                        have hP : va_P D vwCl (mwd y ad zw (tI (tI (tI (tI (tI (tJ (tJ (sI (tI (tI (tI (tI σ 63 f_3) 64 f_4) 66 f_5) 67 f_6) 73 0) 57 f1) 58 f2) 59 f3) 60 f4) 61 f5) 62 f6) 71 f_53)) H := hP
                        have hD : va_D A (mwd y ad zw (tI (tI (tI (tI (tI (tJ (tJ (sI (tI (tI (tI (tI σ 63 f_3) 64 f_4) 66 f_5) 67 f_6) 73 0) 57 f1) 58 f2) 59 f3) 60 f4) 61 f5) 62 f6) 71 f_53)) := hD
                        exact ih_loop3 i_54 f_53 H locs ls (by omega) (by omega) (fun k h9 => by rw [ef_53]; by_cases q9 : k = Int32.toNatClampNeg j <;> first | (rw [q9, x_upd_same]; omega) | (rw [x_upd_ne _ _ q9]; exact hg k (by have q8 : Int32.toNatClampNeg j = j.toInt.toNat := rfl; omega))) (by omega) hP hD hS (lv_sub hl [0, 1, 2, 3] rfl)
                      · have kc_52 : j.toInt < i_1.toInt := by have h9 := c_52; simp only [ge_iff_le, gt_iff_lt, x_lt, x_le, x_eq, ne_eq, Int32.not_lt, Int32.not_le] at h9; omega
                        refine lv_iload_n hx hb dX12_goes_166 rfl (lv_at hl 0 rfl) ?_
                        refine lv_goto (tgt := 171) hx hb dX12_goes_167 (by decide) ?_
                        refine va_iast hx hb hK hP hD hS 48 2 mwd_a48 rfl (x_in (by omega) (by omega)) dX12_goes_171 (fun H locs hP hD hS => ?_)
                        obtain ⟨f_55, ef_55⟩ : ∃ z9 : Nat → Int32, z9 = (upd g (Int32.toNatClampNeg j) j) := ⟨_, rfl⟩
                        have hP : va_P D vwCl (mwd y ad zw (tI (tI (tI (tI (tI (tI (tJ (tJ (sI (tI (tI (tI (tI σ 63 f_3) 64 f_4) 66 f_5) 67 f_6) 73 0) 57 f1) 58 f2) 59 f3) 60 f4) 61 f5) 62 f6) 71 g) 71 f_55)) H := by rw [ef_55]; exact x_trP hP mwd_s48
                        have hD : va_D A (mwd y ad zw (tI (tI (tI (tI (tI (tI (tJ (tJ (sI (tI (tI (tI (tI σ 63 f_3) 64 f_4) 66 f_5) 67 f_6) 73 0) 57 f1) 58 f2) 59 f3) 60 f4) 61 f5) 62 f6) 71 g) 71 f_55)) := by rw [ef_55]; exact x_trD hD mwd_s48
                        obtain ⟨i_56, ei_56⟩ : ∃ z9 : Int32, z9 = j + 1 := ⟨_, rfl⟩
                        have vi_56 : i_56.toInt = j.toInt + 1 := by have h9 := x_add ei_56 (by omega) (by omega); omega
                        refine lv_iinc (v := i_56) (lv' := [(3, .int i_56), (2, .int i_1), (1, .int 1), (0, .ref (ad 1))]) hx hb dX12_goes_172 hl (k := 0) rfl (by rw [ei_56]; rfl) (by decide) rfl (fun ls hl => ?_)
                        refine lv_goto (tgt := 150) hx hb dX12_goes_175 (by decide) ?_
                        have hP : va_P D vwCl (mwd y ad zw (tI (tI (tI (tI (tI (tJ (tJ (sI (tI (tI (tI (tI σ 63 f_3) 64 f_4) 66 f_5) 67 f_6) 73 0) 57 f1) 58 f2) 59 f3) 60 f4) 61 f5) 62 f6) 71 f_55)) H := hP
                        have hD : va_D A (mwd y ad zw (tI (tI (tI (tI (tI (tJ (tJ (sI (tI (tI (tI (tI σ 63 f_3) 64 f_4) 66 f_5) 67 f_6) 73 0) 57 f1) 58 f2) 59 f3) 60 f4) 61 f5) 62 f6) 71 f_55)) := hD
                        exact ih_loop3 i_56 f_55 H locs ls (by omega) (by omega) (fun k h9 => by rw [ef_55]; by_cases q9 : k = Int32.toNatClampNeg j <;> first | (rw [q9, x_upd_same]; omega) | (rw [x_upd_ne _ _ q9]; exact hg k (by have q8 : Int32.toNatClampNeg j = j.toInt.toNat := rfl; omega))) (by omega) hP hD hS (lv_sub hl [0, 1, 2, 3] rfl)
                exact loop3 85 0 fh H locs ls (by decide) (by decide) (fun k h9 => by have h7 : (0 : Int32).toInt = 0 := rfl; have h8 := hfh k (by omega); omega) (by omega) hP hD hS (lv_sub hl [0, 1, 2, 3] rfl)
              · have kc_19 : j.toInt < i_18.toInt := by have h9 := c_19; simp only [ge_iff_le, gt_iff_lt, x_lt, x_le, x_eq, ne_eq, Int32.not_lt, Int32.not_le] at h9; omega
                refine lv_aload_n hx hb dX12_goes_122 rfl (lv_at hl 3 rfl) ?_
                refine lv_iload_n hx hb dX12_goes_123 rfl (lv_at hl 2 rfl) ?_
                refine lv_aload_n hx hb dX12_goes_124 rfl (lv_at hl 3 rfl) ?_
                refine va_get (D := D) (ci := 11) (v := .ref (ad 26)) (C := RX12) (T := TX12) (N := 85) hx hb hts inX12 hown hK hP 0 mwd_o0 rfl 26 (by decide) fl66 (fun _ h9 => h9) rfl dX12_goes_125 ?_
                refine lv_sipush (v := 700) hx hb dX12_goes_128 (by decide) ?_
                refine lv_iload_n hx hb dX12_goes_131 rfl (lv_at hl 0 rfl) ?_
                refine lv_iadd hx hb dX12_goes_132 ?_
                refine lv_topi (fun i_57 ei_57 => ?_)
                have vi_57 : i_57.toInt = 700 + j.toInt := by have h9 := x_add ei_57 (by omega) (by omega); omega
                refine va_iald hx hb hK hP 18 2 mwd_a18 rfl (x_in (by omega) (by omega)) dX12_goes_133 ?_
                refine lv_topi (fun i_58 ei_58 => ?_)
                have ei_58 : i_58 = (σ.2.2.1 26) (Int32.toNatClampNeg i_57) := ei_58
                have bi_58 := b_at hB26 ei_58
                refine lv_i2l hx hb dX12_goes_134 rfl ?_
                refine lv_topl (fun j_59 ej_59 => ?_)
                have vj_59 : j_59.toInt = i_58.toInt := by rw [ej_59]; exact Int32.toInt_toInt64 _
                refine lv_lconst (v := 1) hx hb dX12_goes_135 (by decide) ?_
                refine lv_iconst (v := 0) hx hb dX12_goes_136 (by decide) ?_
                refine lv_iconst (v := (-1)) hx hb dX12_goes_137 (by decide) ?_
                refine lv_iconst (v := (-1)) hx hb dX12_goes_138 (by decide) ?_
                refine x_callvW (va_runV (As := [.int 1, .long j_59, .long 1, .int 0, .int (-1), .int (-1)]) (rest := []) ⟨hx, hb, hml, hown, hts⟩ (q_lays1 l D y H.size ad zw (tI (tI (tI (tI (tJ (tJ (sI (tI (tI (tI (tI σ 63 f_3) 64 f_4) 66 f_5) 67 f_6) 73 0) 57 f1) 58 f2) 59 f3) 60 f4) 61 f5) 62 f6) j_59 1 0 (-1) (-1) (by first | omega | decide) (by first | omega | decide) (by first | omega | decide) (by first | omega | decide) ho (fun h9 => absurd rfl h9) (show 0 ≤ (f6 1).toInt from by first | omega | decide) (show (f6 1).toInt < 1760 from by first | omega | decide) hf1 hf2 hf6) (cwV 6 hts g_q_goes1_0 rfl rfl rfl (by decide +kernel) ⟨Nat.le_of_ble_eq_true rfl, Nat.le_of_ble_eq_true rfl⟩) (x_preV (q := (RX12, TX12, 85)) hK hP hD (ci := 11) (q0 := 0) rfl mwd_o0) rfl rfl hl.1 rfl (lv_room (Nat.le_of_ble_eq_true rfl)) dX12_goes_139 ⟨Nat.le_of_ble_eq_true rfl, Nat.le_of_ble_eq_true rfl⟩) hP hD hS hA (fun u H locs hw hP hD hS => ?_)
                obtain ⟨f_60, f_61, f_62, f_63, f_64, f_65⟩ := u
                try dsimp only at hw
                have hP : va_P D vwCl (mwd y ad zw (tI (tI (tI (tI (tJ (tJ (tI (tI (tI (tI (tJ (tJ (sI (tI (tI (tI (tI σ 63 f_3) 64 f_4) 66 f_5) 67 f_6) 73 0) 57 f1) 58 f2) 59 f3) 60 f4) 61 f5) 62 f6) 57 f_60) 58 f_61) 59 f_62) 60 f_63) 61 f_64) 62 f_65)) H := hP
                have hD : va_D A (mwd y ad zw (tI (tI (tI (tI (tJ (tJ (tI (tI (tI (tI (tJ (tJ (sI (tI (tI (tI (tI σ 63 f_3) 64 f_4) 66 f_5) 67 f_6) 73 0) 57 f1) 58 f2) 59 f3) 60 f4) 61 f5) 62 f6) 57 f_60) 58 f_61) 59 f_62) 60 f_63) 61 f_64) 62 f_65)) := hD
                have hw : (opc f_62 f_63 f_64 ∧ (f_65 1).toInt = (f6 1).toInt + 1 ∧ f_65 0 = f6 0) ∧ bJ f_60 (-1000000000) 1000000000 ∧ bJ f_61 0 1000000000 ∧ bI f_65 0 1760 := hw
                obtain ⟨hw, hg_66, hg_67, hg_68⟩ := hw
                obtain ⟨ho9, hl9, hl8⟩ := hw
                obtain ⟨i_69, ei_69⟩ : ∃ z9 : Int32, z9 = j + 1 := ⟨_, rfl⟩
                have vi_69 : i_69.toInt = j.toInt + 1 := by have h9 := x_add ei_69 (by omega) (by omega); omega
                refine lv_iinc (v := i_69) (lv' := [(3, .int i_69), (2, .int i_1), (1, .int 1), (0, .ref (ad 1))]) hx hb dX12_goes_142 hl (k := 0) rfl (by rw [ei_69]; rfl) (by decide) rfl (fun ls hl => ?_)
                refine lv_goto (tgt := 111) hx hb dX12_goes_145 (by decide) ?_
                have hP : va_P D vwCl (mwd y ad zw (tI (tI (tI (tI (tJ (tJ (sI (tI (tI (tI (tI σ 63 f_3) 64 f_4) 66 f_5) 67 f_6) 73 0) 57 f_60) 58 f_61) 59 f_62) 60 f_63) 61 f_64) 62 f_65)) H := hP
                have hD : va_D A (mwd y ad zw (tI (tI (tI (tI (tJ (tJ (sI (tI (tI (tI (tI σ 63 f_3) 64 f_4) 66 f_5) 67 f_6) 73 0) 57 f_60) 58 f_61) 59 f_62) 60 f_63) 61 f_64) 62 f_65)) := hD
                exact ih_loop2 i_69 f_60 f_61 f_62 f_63 f_64 f_65 H locs ls (by omega) (by omega) hg_66 hg_67 ho9 hg_68 (by omega) (by omega) hP hD hS (lv_sub hl [0, 1, 2, 3] rfl)
          exact loop2 701 0 f_9 f_10 f_11 f_12 f_13 f_14 H locs ls (by decide) (by have h7 : (0 : Int32).toInt = 0 := rfl; omega) hg_15 hg_16 ho9 hg_17 (by have h7 : (0 : Int32).toInt = 0 := rfl; omega) (by omega) hP hD hS (lv_sub hl [0, 1, 2, 3] rfl)
        · have kc_8 : j.toInt < i_1.toInt := by have h9 := c_8; simp only [ge_iff_le, gt_iff_lt, x_lt, x_le, x_eq, ne_eq, Int32.not_lt, Int32.not_le] at h9; omega
          refine lv_aload_n hx hb dX12_goes_63 rfl (lv_at hl 3 rfl) ?_
          refine lv_iload_n hx hb dX12_goes_64 rfl (lv_at hl 2 rfl) ?_
          refine lv_aload_n hx hb dX12_goes_65 rfl (lv_at hl 3 rfl) ?_
          refine va_get (D := D) (ci := 11) (v := .ref (ad 55)) (C := RX12) (T := TX12) (N := 85) hx hb hts inX12 hown hK hP 0 mwd_o0 rfl 55 (by decide) fl118 (fun _ h9 => h9) rfl dX12_goes_66 ?_
          refine lv_bipush (v := 8) hx hb dX12_goes_69 (by decide) ?_
          refine lv_iload_n hx hb dX12_goes_71 rfl (lv_at hl 2 rfl) ?_
          refine lv_imul hx hb dX12_goes_72 ?_
          refine lv_topi (fun i_70 ei_70 => ?_)
          obtain rfl : i_70 = 8 := ei_70.trans (by decide)
          refine lv_iload_n hx hb dX12_goes_73 rfl (lv_at hl 0 rfl) ?_
          refine lv_iadd hx hb dX12_goes_74 ?_
          refine lv_topi (fun i_71 ei_71 => ?_)
          have vi_71 : i_71.toInt = 8 + j.toInt := by have h9 := x_add ei_71 (by omega) (by omega); omega
          refine va_lald hx hb hK hP 35 3 mwd_a35 rfl (x_in (by omega) (by omega)) dX12_goes_75 ?_
          refine lv_topl (fun j_72 ej_72 => ?_)
          have ej_72 : j_72 = (σ.2.2.2 55) (Int32.toNatClampNeg i_71) := ej_72
          have bj_72 := b_atJ hB55 ej_72
          refine lv_aload_n hx hb dX12_goes_76 rfl (lv_at hl 3 rfl) ?_
          refine va_get (D := D) (ci := 11) (v := .ref (ad 56)) (C := RX12) (T := TX12) (N := 85) hx hb hts inX12 hown hK hP 0 mwd_o0 rfl 56 (by decide) fl121 (fun _ h9 => h9) rfl dX12_goes_77 ?_
          refine lv_bipush (v := 8) hx hb dX12_goes_80 (by decide) ?_
          refine lv_iload_n hx hb dX12_goes_82 rfl (lv_at hl 2 rfl) ?_
          refine lv_imul hx hb dX12_goes_83 ?_
          refine lv_topi (fun i_73 ei_73 => ?_)
          obtain rfl : i_73 = 8 := ei_73.trans (by decide)
          refine lv_iload_n hx hb dX12_goes_84 rfl (lv_at hl 0 rfl) ?_
          refine lv_iadd hx hb dX12_goes_85 ?_
          refine lv_topi (fun i_74 ei_74 => ?_)
          have vi_74 : i_74.toInt = 8 + j.toInt := by have h9 := x_add ei_74 (by omega) (by omega); omega
          refine va_lald hx hb hK hP 36 3 mwd_a36 rfl (x_in (by omega) (by omega)) dX12_goes_86 ?_
          refine lv_topl (fun j_75 ej_75 => ?_)
          have ej_75 : j_75 = (σ.2.2.2 56) (Int32.toNatClampNeg i_74) := ej_75
          have bj_75 := b_atJ hB56 ej_75
          refine lv_iconst (v := 0) hx hb dX12_goes_87 (by decide) ?_
          refine lv_iconst (v := (-1)) hx hb dX12_goes_88 (by decide) ?_
          refine lv_iconst (v := (-1)) hx hb dX12_goes_89 (by decide) ?_
          refine x_callvW (va_runV (As := [.int 1, .long j_72, .long j_75, .int 0, .int (-1), .int (-1)]) (rest := []) ⟨hx, hb, hml, hown, hts⟩ (q_lays1 l D y H.size ad zw (tI (tI (tI (tI (tJ (tJ (sI (tI (tI (tI (tI σ 63 f_3) 64 f_4) 66 f_5) 67 f_6) 73 0) 57 f1) 58 f2) 59 f3) 60 f4) 61 f5) 62 f6) j_72 j_75 0 (-1) (-1) (by first | omega | decide) (by first | omega | decide) (by first | omega | decide) (by first | omega | decide) ho (fun h9 => absurd rfl h9) (show 0 ≤ (f6 1).toInt from by first | omega | decide) (show (f6 1).toInt < 1760 from by first | omega | decide) hf1 hf2 hf6) (cwV 6 hts g_q_goes1_0 rfl rfl rfl (by decide +kernel) ⟨Nat.le_of_ble_eq_true rfl, Nat.le_of_ble_eq_true rfl⟩) (x_preV (q := (RX12, TX12, 85)) hK hP hD (ci := 11) (q0 := 0) rfl mwd_o0) rfl rfl hl.1 rfl (lv_room (Nat.le_of_ble_eq_true rfl)) dX12_goes_90 ⟨Nat.le_of_ble_eq_true rfl, Nat.le_of_ble_eq_true rfl⟩) hP hD hS hA (fun u H locs hw hP hD hS => ?_)
          obtain ⟨f_76, f_77, f_78, f_79, f_80, f_81⟩ := u
          try dsimp only at hw
          have hP : va_P D vwCl (mwd y ad zw (tI (tI (tI (tI (tJ (tJ (tI (tI (tI (tI (tJ (tJ (sI (tI (tI (tI (tI σ 63 f_3) 64 f_4) 66 f_5) 67 f_6) 73 0) 57 f1) 58 f2) 59 f3) 60 f4) 61 f5) 62 f6) 57 f_76) 58 f_77) 59 f_78) 60 f_79) 61 f_80) 62 f_81)) H := hP
          have hD : va_D A (mwd y ad zw (tI (tI (tI (tI (tJ (tJ (tI (tI (tI (tI (tJ (tJ (sI (tI (tI (tI (tI σ 63 f_3) 64 f_4) 66 f_5) 67 f_6) 73 0) 57 f1) 58 f2) 59 f3) 60 f4) 61 f5) 62 f6) 57 f_76) 58 f_77) 59 f_78) 60 f_79) 61 f_80) 62 f_81)) := hD
          have hw : (opc f_78 f_79 f_80 ∧ (f_81 1).toInt = (f6 1).toInt + 1 ∧ f_81 0 = f6 0) ∧ bJ f_76 (-1000000000) 1000000000 ∧ bJ f_77 0 1000000000 ∧ bI f_81 0 1760 := hw
          obtain ⟨hw, hg_82, hg_83, hg_84⟩ := hw
          obtain ⟨ho9, hl9, hl8⟩ := hw
          obtain ⟨i_85, ei_85⟩ : ∃ z9 : Int32, z9 = j + 1 := ⟨_, rfl⟩
          have vi_85 : i_85.toInt = j.toInt + 1 := by have h9 := x_add ei_85 (by omega) (by omega); omega
          refine lv_iinc (v := i_85) (lv' := [(3, .int i_85), (2, .int i_1), (1, .int 1), (0, .ref (ad 1))]) hx hb dX12_goes_93 hl (k := 0) rfl (by rw [ei_85]; rfl) (by decide) rfl (fun ls hl => ?_)
          refine lv_goto (tgt := 58) hx hb dX12_goes_96 (by decide) ?_
          have hP : va_P D vwCl (mwd y ad zw (tI (tI (tI (tI (tJ (tJ (sI (tI (tI (tI (tI σ 63 f_3) 64 f_4) 66 f_5) 67 f_6) 73 0) 57 f_76) 58 f_77) 59 f_78) 60 f_79) 61 f_80) 62 f_81)) H := hP
          have hD : va_D A (mwd y ad zw (tI (tI (tI (tI (tJ (tJ (sI (tI (tI (tI (tI σ 63 f_3) 64 f_4) 66 f_5) 67 f_6) 73 0) 57 f_76) 58 f_77) 59 f_78) 60 f_79) 61 f_80) 62 f_81)) := hD
          exact ih_loop i_85 f_76 f_77 f_78 f_79 f_80 f_81 H locs ls (by omega) (by omega) hg_82 hg_83 ho9 hg_84 (by omega) (by omega) hP hD hS (lv_sub hl [0, 1, 2, 3] rfl)
    exact loop 9 0 (σ.2.2.2 57) (σ.2.2.2 58) (σ.2.2.1 59) (σ.2.2.1 60) (σ.2.2.1 61) f_2 H locs ls (by decide) (by have h7 : (0 : Int32).toInt = 0 := rfl; omega) hB57 hB58 hop hvf_2 (by have h7 : (0 : Int32).toInt = 0 := rfl; omega) (by omega) hP hD hS (lv_sub hl [0, 1, 3, 2] rfl)
  · exact absurd c_7 (by decide)

