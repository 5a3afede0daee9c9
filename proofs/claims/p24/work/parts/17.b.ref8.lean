def v_q_does1 : List Cond := .code yX12_does cX12_does 5 (some .int) :: ([.fieldLink RX12 69 "SlopeRunnerModel" "codes" "[I", .fieldLink RX12 160 "SlopeRunnerModel" "pile" "[I", .fieldLink RX12 421 "SlopeRunnerModel" "piled" "I", .fieldLink RX12 60 "SlopeRunnerModel" "has" "[I", .fieldLink RX12 157 "SlopeRunnerModel" "held" "[I", .fieldLink RX12 145 "SlopeRunnerModel" "results" "[I", .fieldLink RX12 148 "SlopeRunnerModel" "resultAt" "[I", .fieldLink RX12 154 "SlopeRunnerModel" "state" "[I"] ++ ((wsV RX12 444 RX12 yX12_placeOf v_q_placeOf1) ++ ((wsV RX12 447 RX12 yX12_works v_q_works1_1) ++ ((wsV RX12 447 RX12 yX12_works v_q_works1_2) ++ ((wsV RX12 447 RX12 yX12_works v_q_works1_3) ++ ((wsV RX12 447 RX12 yX12_works v_q_works1_4) ++ ((wsV RX12 447 RX12 yX12_works v_q_works1_5) ++ ((wsV RX12 447 RX12 yX12_works v_q_works1_6) ++ ((wsV RX12 447 RX12 yX12_works v_q_works1_7) ++ ((wsV RX12 447 RX12 yX12_works v_q_works1_11) ++ ((wsV RX12 447 RX12 yX12_works v_q_works1_12) ++ ((wsV RX12 447 RX12 yX12_works v_q_works1_13) ++ wsX120))))))))))))
theorem g_q_does1_0 : GoodIn v_q_does1 (wsV RX12 444 RX12 yX12_placeOf v_q_placeOf1) := goodIn_sub (fun w h => List.mem_cons_of_mem _ (List.mem_append_right _ (List.mem_append_left _ h))) (by decide +kernel)
theorem g_q_does1_1 : GoodIn v_q_does1 (wsV RX12 447 RX12 yX12_works v_q_works1_1) := goodIn_sub (fun w h => List.mem_cons_of_mem _ (List.mem_append_right _ (List.mem_append_right _ (List.mem_append_left _ h)))) (by decide +kernel)
theorem g_q_does1_2 : GoodIn v_q_does1 (wsV RX12 447 RX12 yX12_works v_q_works1_2) := goodIn_sub (fun w h => List.mem_cons_of_mem _ (List.mem_append_right _ (List.mem_append_right _ (List.mem_append_right _ (List.mem_append_left _ h))))) (by decide +kernel)
theorem g_q_does1_3 : GoodIn v_q_does1 (wsV RX12 447 RX12 yX12_works v_q_works1_3) := goodIn_sub (fun w h => List.mem_cons_of_mem _ (List.mem_append_right _ (List.mem_append_right _ (List.mem_append_right _ (List.mem_append_right _ (List.mem_append_left _ h)))))) (by decide +kernel)
theorem g_q_does1_4 : GoodIn v_q_does1 (wsV RX12 447 RX12 yX12_works v_q_works1_4) := goodIn_sub (fun w h => List.mem_cons_of_mem _ (List.mem_append_right _ (List.mem_append_right _ (List.mem_append_right _ (List.mem_append_right _ (List.mem_append_right _ (List.mem_append_left _ h))))))) (by decide +kernel)
theorem g_q_does1_5 : GoodIn v_q_does1 (wsV RX12 447 RX12 yX12_works v_q_works1_5) := goodIn_sub (fun w h => List.mem_cons_of_mem _ (List.mem_append_right _ (List.mem_append_right _ (List.mem_append_right _ (List.mem_append_right _ (List.mem_append_right _ (List.mem_append_right _ (List.mem_append_left _ h)))))))) (by decide +kernel)
theorem g_q_does1_6 : GoodIn v_q_does1 (wsV RX12 447 RX12 yX12_works v_q_works1_6) := goodIn_sub (fun w h => List.mem_cons_of_mem _ (List.mem_append_right _ (List.mem_append_right _ (List.mem_append_right _ (List.mem_append_right _ (List.mem_append_right _ (List.mem_append_right _ (List.mem_append_right _ (List.mem_append_left _ h))))))))) (by decide +kernel)
theorem g_q_does1_7 : GoodIn v_q_does1 (wsV RX12 447 RX12 yX12_works v_q_works1_7) := goodIn_sub (fun w h => List.mem_cons_of_mem _ (List.mem_append_right _ (List.mem_append_right _ (List.mem_append_right _ (List.mem_append_right _ (List.mem_append_right _ (List.mem_append_right _ (List.mem_append_right _ (List.mem_append_right _ (List.mem_append_left _ h)))))))))) (by decide +kernel)
theorem g_q_does1_8 : GoodIn v_q_does1 (wsV RX12 447 RX12 yX12_works v_q_works1_11) := goodIn_sub (fun w h => List.mem_cons_of_mem _ (List.mem_append_right _ (List.mem_append_right _ (List.mem_append_right _ (List.mem_append_right _ (List.mem_append_right _ (List.mem_append_right _ (List.mem_append_right _ (List.mem_append_right _ (List.mem_append_right _ (List.mem_append_left _ h))))))))))) (by decide +kernel)
theorem g_q_does1_9 : GoodIn v_q_does1 (wsV RX12 447 RX12 yX12_works v_q_works1_12) := goodIn_sub (fun w h => List.mem_cons_of_mem _ (List.mem_append_right _ (List.mem_append_right _ (List.mem_append_right _ (List.mem_append_right _ (List.mem_append_right _ (List.mem_append_right _ (List.mem_append_right _ (List.mem_append_right _ (List.mem_append_right _ (List.mem_append_right _ (List.mem_append_left _ h)))))))))))) (by decide +kernel)
theorem g_q_does1_10 : GoodIn v_q_does1 (wsV RX12 447 RX12 yX12_works v_q_works1_13) := goodIn_sub (fun w h => List.mem_cons_of_mem _ (List.mem_append_right _ (List.mem_append_right _ (List.mem_append_right _ (List.mem_append_right _ (List.mem_append_right _ (List.mem_append_right _ (List.mem_append_right _ (List.mem_append_right _ (List.mem_append_right _ (List.mem_append_right _ (List.mem_append_right _ (List.mem_append_left _ h))))))))))))) (by decide +kernel)
set_option maxHeartbeats 4000000 in
set_option maxRecDepth 100000 in
theorem q_does1 (l : Launch) (D : va_G) (y : Nat → ClassId) (sz : Nat) (ad : Nat → Nat) (zw : Nat → Nat → Int32) (σ : OS) (i n : Nat) (k : Int32) (T : List Bool) (bb : Bool) (ty : Nat → Option (List Bool × Bool)) (hk : k.toInt = (i : Int)) (hin : i < n) (hn2 : n ≤ 700) (hty : ty i = some (T, bb)) (hW : WC (fun j => σ.2.2.1 85 (1200 + j)) n (σ.2.2.1 24 9).toInt ty) (hp : (σ.1 73).toInt = (T.length : Int)) (hPT : PT T (σ.2.2.1 72) (σ.2.2.1 62 1).toInt) (hh : bI (σ.2.2.1 71) 0 ((σ.2.2.1 62 1).toInt - 1)) (hnk : (σ.2.2.1 24 5).toInt + 1 + (σ.2.2.1 24 9).toInt ≤ (σ.2.2.1 62 1).toInt) (h5 : 0 ≤ (σ.2.2.1 24 5).toInt ∧ (σ.2.2.1 24 5).toInt ≤ 8) (hop : opc (σ.2.2.1 59) (σ.2.2.1 60) (σ.2.2.1 61)) (hl1 : (σ.2.2.1 62 1).toInt < 1760) (hB57 : bJ (σ.2.2.2 57) (-1000000000) 1000000000) (hB58 : bJ (σ.2.2.2 58) 0 1000000000) (hB62 : bI (σ.2.2.1 62) 0 1760) (hB63 : bI (σ.2.2.1 63) 0 1000) (hB25 : bI (σ.2.2.1 25) 0 16) (hB64 : bI (σ.2.2.1 64) 0 12) (hB65 : bI (σ.2.2.1 65) 0 1759) : Met l yX12_does v_q_does1 ({ frames := 5, cells := 0, slots := 0, locals := 142 } : Room) (va_Pc [.ref (ad 1), .int 1, .int k] (xPre D (xT y) (mwd y ad zw σ) sz)) (va_Qi (fun (r : Int32) (u : Int32 × (Nat → Int32) × (Nat → Int32) × (Nat → Int32) × (Nat → Int32) × Int32 × Int64 × Int64 × Int32 × Int64 × Int64 × (Nat → Int64) × (Nat → Int64) × (Nat → Int32) × (Nat → Int32) × (Nat → Int32) × (Nat → Int32) × (Nat → Int32) × (Nat → Int32) × (Nat → Int32)) => (((u.2.2.2.1 1).toInt ≠ 0 ∨ ∃ (j : Nat) (T1 : List Bool) (b1 : Bool), r.toInt = (j : Int) ∧ ty j = some (T1, b1) ∧ u.1.toInt = (T1.length : Int) ∧ PT T1 u.2.1 (u.2.2.2.2.2.2.2.2.2.2.2.2.2.2.2.2.1 1).toInt ∧ bI u.2.2.2.2.2.2.2.2.2.2.2.2.2.2.2.2.2.1 0 ((u.2.2.2.2.2.2.2.2.2.2.2.2.2.2.2.2.1 1).toInt - 1) ∧ MU j b1 (u.2.2.1 1).toInt < MU i bb (σ.2.2.1 63 1).toInt ∧ u.2.2.2.1 = σ.2.2.1 67) ∧ opc u.2.2.2.2.2.2.2.2.2.2.2.2.2.1 u.2.2.2.2.2.2.2.2.2.2.2.2.2.2.1 u.2.2.2.2.2.2.2.2.2.2.2.2.2.2.2.1 ∧ (σ.2.2.1 62 1).toInt ≤ (u.2.2.2.2.2.2.2.2.2.2.2.2.2.2.2.2.1 1).toInt ∧ (u.2.2.2.2.2.2.2.2.2.2.2.2.2.2.2.2.1 1).toInt - (σ.2.2.1 62 1).toInt ≤ (u.2.2.1 1).toInt - (σ.2.2.1 63 1).toInt ∧ u.2.2.2.2.2.2.2.2.2.2.2.2.2.2.2.2.1 0 = σ.2.2.1 62 0) ∧ bJ u.2.2.2.2.2.2.2.2.2.2.2.1 (-1000000000) 1000000000 ∧ bJ u.2.2.2.2.2.2.2.2.2.2.2.2.1 0 1000000000 ∧ bI u.2.2.2.2.2.2.2.2.2.2.2.2.2.2.2.2.1 0 1760 ∧ bI u.2.2.1 0 1000 ∧ bI u.2.2.2.2.2.2.2.2.2.2.2.2.2.2.2.2.2.2.1 0 12 ∧ bI u.2.2.2.2.2.2.2.2.2.2.2.2.2.2.2.2.2.2.2 0 1759) (fun (u : Int32 × (Nat → Int32) × (Nat → Int32) × (Nat → Int32) × (Nat → Int32) × Int32 × Int64 × Int64 × Int32 × Int64 × Int64 × (Nat → Int64) × (Nat → Int64) × (Nat → Int32) × (Nat → Int32) × (Nat → Int32) × (Nat → Int32) × (Nat → Int32) × (Nat → Int32) × (Nat → Int32)) => xB D (xT y) (va_A (mwd y ad zw σ) sz) (mwd y ad zw (tI (tI (tI (tI (tI (tI (tI (tJ (tJ (sJ (sJ (sI (sJ (sJ (sI (tI (tI (tI (tI (sI σ 73 u.1) 72 u.2.1) 63 u.2.2.1) 67 u.2.2.2.1) 66 u.2.2.2.2.1) 44 u.2.2.2.2.2.1) 42 u.2.2.2.2.2.2.1) 43 u.2.2.2.2.2.2.2.1) 68 u.2.2.2.2.2.2.2.2.1) 69 u.2.2.2.2.2.2.2.2.2.1) 70 u.2.2.2.2.2.2.2.2.2.2.1) 57 u.2.2.2.2.2.2.2.2.2.2.2.1) 58 u.2.2.2.2.2.2.2.2.2.2.2.2.1) 59 u.2.2.2.2.2.2.2.2.2.2.2.2.2.1) 60 u.2.2.2.2.2.2.2.2.2.2.2.2.2.2.1) 61 u.2.2.2.2.2.2.2.2.2.2.2.2.2.2.2.1) 62 u.2.2.2.2.2.2.2.2.2.2.2.2.2.2.2.2.1) 71 u.2.2.2.2.2.2.2.2.2.2.2.2.2.2.2.2.2.1) 64 u.2.2.2.2.2.2.2.2.2.2.2.2.2.2.2.2.2.2.1) 65 u.2.2.2.2.2.2.2.2.2.2.2.2.2.2.2.2.2.2.2))) (va_A (mwd y ad zw σ) sz)) 0 0 (va_A (mwd y ad zw σ) sz) := by
  refine x_meti (cc := cX12_does) (maxL := 5) (by decide) rfl (Nat.le_of_ble_eq_true rfl) ?_
  intro p e s m below meth c A H locs Q hx hb hml hown hts hr hlocks hmn hA hP hK hD hS ls hl hQ
  have hl : lv_has ls 5 [(0, .ref (ad 1)), (1, .int 1), (2, .int k)] := hl
  have fl69 := hts (.fieldLink RX12 69 "SlopeRunnerModel" "codes" "[I") (List.mem_of_getElem? (i := 1) rfl)
  have inX12 : ∀ w ∈ wsX120, w ∈ v_q_does1 := (fun w h => List.mem_cons_of_mem _ (List.mem_append_right _ (List.mem_append_right _ (List.mem_append_right _ (List.mem_append_right _ (List.mem_append_right _ (List.mem_append_right _ (List.mem_append_right _ (List.mem_append_right _ (List.mem_append_right _ (List.mem_append_right _ (List.mem_append_right _ (List.mem_append_right _ h)))))))))))))
  have kk_1200 : (1200 : Int32).toInt = 1200 := rfl
  have kk_1000 : (1000 : Int32).toInt = 1000 := rfl
  have fl160 := hts (.fieldLink RX12 160 "SlopeRunnerModel" "pile" "[I") (List.mem_of_getElem? (i := 2) rfl)
  have fl421 := hts (.fieldLink RX12 421 "SlopeRunnerModel" "piled" "I") (List.mem_of_getElem? (i := 3) rfl)
  have fl60 := hts (.fieldLink RX12 60 "SlopeRunnerModel" "has" "[I") (List.mem_of_getElem? (i := 4) rfl)
  have kk_1 : (1 : Int32).toInt = 1 := rfl
  have kk_502 : (502 : Int32).toInt = 502 := rfl
  have kk_501 : (501 : Int32).toInt = 501 := rfl
  have kk_500 : (500 : Int32).toInt = 500 := rfl
  have kk_400 : (400 : Int32).toInt = 400 := rfl
  have kk_300 : (300 : Int32).toInt = 300 := rfl
  have kk_200 : (200 : Int32).toInt = 200 := rfl
  have kk_100 : (100 : Int32).toInt = 100 := rfl
  have fl157 := hts (.fieldLink RX12 157 "SlopeRunnerModel" "held" "[I") (List.mem_of_getElem? (i := 5) rfl)
  have kk_m1 : ((-1) : Int32).toInt = -1 := rfl
  have fl145 := hts (.fieldLink RX12 145 "SlopeRunnerModel" "results" "[I") (List.mem_of_getElem? (i := 6) rfl)
  have kk_12 : (12 : Int32).toInt = 12 := rfl
  have fl148 := hts (.fieldLink RX12 148 "SlopeRunnerModel" "resultAt" "[I") (List.mem_of_getElem? (i := 7) rfl)
  have fl154 := hts (.fieldLink RX12 154 "SlopeRunnerModel" "state" "[I") (List.mem_of_getElem? (i := 8) rfl)
  have kk_0 : (0 : Int32).toInt = 0 := rfl
  have kk_2 : (2 : Int32).toInt = 2 := rfl
  have kk_3 : (3 : Int32).toInt = 3 := rfl
  have kk_4 : (4 : Int32).toInt = 4 := rfl
  have kk_5 : (5 : Int32).toInt = 5 := rfl
  have kk_6 : (6 : Int32).toInt = 6 := rfl
  have kk_7 : (7 : Int32).toInt = 7 := rfl
  have kk_11 : (11 : Int32).toInt = 11 := rfl
  have kk_13 : (13 : Int32).toInt = 13 := rfl
  have hl0 := (hB62 1).1
  refine lv_aload_n hx hb dX12_does_0 rfl (lv_at hl 0 rfl) ?_
  refine va_get (D := D) (ci := 11) (v := .ref (ad 27)) (C := RX12) (T := TX12) (N := 85) hx hb hts inX12 hown hK hP 0 mwd_o0 rfl 27 (by decide) fl69 (fun _ h9 => h9) rfl dX12_does_1 ?_
  refine lv_sipush (v := 1200) hx hb dX12_does_4 (by decide) ?_
  refine lv_iload_n hx hb dX12_does_7 rfl (lv_at hl 2 rfl) ?_
  refine lv_iadd hx hb dX12_does_8 ?_
  refine lv_topi (fun i_1 ei_1 => ?_)
  have vi_1 : i_1.toInt = 1200 + k.toInt := by have h9 := x_add ei_1 (by omega) (by omega); omega
  refine va_iald hx hb hK hP 19 2 mwd_a19 rfl (x_in (by omega) (by omega)) dX12_does_9 ?_
  refine lv_topi (fun i_2 ei_2 => ?_)
  have ei_2 : i_2 = (σ.2.2.1 85) (Int32.toNatClampNeg i_1) := ei_2.trans (cj_hi (by show _ ≤ Int.toNat _; omega))
  have hc : i_2 = σ.2.2.1 85 (1200 + i) := by rw [ei_2, x_cl (n := 1200 + i) (by push_cast; omega)]
  have hS9 := hW.2.2 i T bb hin hty
  have hLn := hW.2.1 i T bb hty
  unfold SOK at hS9
  dsimp only at hS9
  rw [← hc] at hS9
  rcases hS9 with ⟨a1, a2, b1, hb1, hn⟩ | ⟨a1, a2, b1, hb1, hn⟩ | ⟨T0, a1, a2, rfl, b1, hb1, hn⟩ | ⟨T0, a1, a2, rfl, b1, hb1, hn⟩ | ⟨T0, a1, a2, rfl, b1, hb1, hn⟩ | ⟨T0, a1, rfl, b1, hb1, hn⟩ | ⟨T0, a1, a2, rfl, b1, hb1, hn, t, ht, hj⟩ | ⟨a1, a2, t, ht, hj⟩ | ⟨T0, a1, a2, rfl, b1, hb1, hn⟩ | ⟨T0, a1, rfl, b1, hb1, hn⟩ | ⟨T0, a1, a2, rfl, b9, hn⟩ | ⟨T0, a1, a2, rfl, b1, hb1, hn⟩ | ⟨T0, a1, rfl, b1, hb1, hn⟩
  · skip
    refine lv_istore_n (lv' := [(3, .int i_2), (0, .ref (ad 1)), (1, .int 1), (2, .int k)]) hx hb dX12_does_10 rfl hl (by decide) rfl (fun ls hl => ?_)
    refine lv_iload_n hx hb dX12_does_11 rfl (lv_at hl 0 rfl) ?_
    refine lv_sipush (v := 1000) hx hb dX12_does_12 (by decide) ?_
    refine lv_icmp_lt (tgt := 54) hx hb dX12_does_15 (by decide) (fun c_3 => ?_) (fun c_3 => ?_)
    · have kc_3 : i_2.toInt < 1000 := by have h9 := c_3; simp only [ge_iff_le, gt_iff_lt, x_lt, x_le, x_eq, ne_eq, Int32.not_lt, Int32.not_le] at h9; simp only [Int32.reduceToInt] at h9; omega
      exfalso
      omega
    · have kc_3 : i_2.toInt ≥ 1000 := by have h9 := c_3; simp only [ge_iff_le, gt_iff_lt, x_lt, x_le, x_eq, ne_eq, Int32.not_lt, Int32.not_le] at h9; simp only [Int32.reduceToInt] at h9; omega
      refine lv_aload_n hx hb dX12_does_18 rfl (lv_at hl 1 rfl) ?_
      refine va_get (D := D) (ci := 11) (v := .ref (ad 72)) (C := RX12) (T := TX12) (N := 85) hx hb hts inX12 hown hK hP 0 mwd_o0 rfl 72 (by decide) fl160 (fun _ h9 => h9) rfl dX12_does_19 ?_
      refine lv_aload_n hx hb dX12_does_22 rfl (lv_at hl 1 rfl) ?_
      refine va_get (D := D) (ci := 11) (v := .int (σ.1 73)) (C := RX12) (T := TX12) (N := 85) hx hb hts inX12 hown hK hP 0 mwd_o0 rfl 73 (by decide) fl421 (fun _ h9 => h9) rfl dX12_does_23 ?_
      refine lv_aload_n hx hb dX12_does_26 rfl (lv_at hl 1 rfl) ?_
      refine va_get (D := D) (ci := 11) (v := .ref (ad 24)) (C := RX12) (T := TX12) (N := 85) hx hb hts inX12 hown hK hP 0 mwd_o0 rfl 24 (by decide) fl60 (fun _ h9 => h9) rfl dX12_does_27 ?_
      refine lv_iconst (v := 5) hx hb dX12_does_30 (by decide) ?_
      refine va_iald hx hb hK hP 16 2 mwd_a16 rfl (x_in (by decide) (by decide)) dX12_does_31 ?_
      refine lv_topi (fun i_4 ei_4 => ?_)
      have ei_4 : i_4 = (σ.2.2.1 24) (Int32.toNatClampNeg 5) := ei_4
      have gi_4 : i_4.toInt = (σ.2.2.1 24 5).toInt := by rw [ei_4]; rfl
      refine lv_iconst (v := 1) hx hb dX12_does_32 (by decide) ?_
      refine lv_iadd hx hb dX12_does_33 ?_
      refine lv_topi (fun i_5 ei_5 => ?_)
      have vi_5 : i_5.toInt = i_4.toInt + 1 := by have h9 := x_add ei_5 (by omega) (by omega); omega
      refine lv_iload_n hx hb dX12_does_34 rfl (lv_at hl 0 rfl) ?_
      refine lv_iadd hx hb dX12_does_35 ?_
      refine lv_topi (fun i_6 ei_6 => ?_)
      have vi_6 : i_6.toInt = i_5.toInt + i_2.toInt := by have h9 := x_add ei_6 (by omega) (by omega); omega
      refine lv_sipush (v := 1000) hx hb dX12_does_36 (by decide) ?_
      refine lv_isub hx hb dX12_does_39 ?_
      refine lv_topi (fun i_7 ei_7 => ?_)
      have vi_7 : i_7.toInt = i_6.toInt - 1000 := by have h9 := x_sub ei_7 (by omega) (by omega); omega
      refine va_iast hx hb hK hP hD hS 49 2 mwd_a49 rfl (x_in (by omega) (by omega)) dX12_does_40 (fun H locs hP hD hS => ?_)
      obtain ⟨f_8, ef_8⟩ : ∃ z9 : Nat → Int32, z9 = (upd (σ.2.2.1 72) (Int32.toNatClampNeg (σ.1 73)) i_7) := ⟨_, rfl⟩
      have hP : va_P D vwCl (mwd y ad zw (tI σ 72 f_8)) H := by rw [ef_8]; exact x_trP hP mwd_s49
      have hD : va_D A (mwd y ad zw (tI σ 72 f_8)) := by rw [ef_8]; exact x_trD hD mwd_s49
      have pf_8 : PT (true :: T) f_8 ((σ.2.2.1 62) 1).toInt := by rw [ef_8]; exact PT_pushN hPT (x_cl (by omega)) (by omega) (by omega)
      refine lv_aload_n hx hb dX12_does_41 rfl (lv_at hl 1 rfl) ?_
      refine lv_dup hx hb dX12_does_42 rfl ?_
      refine va_get (D := D) (ci := 11) (v := .int (σ.1 73)) (C := RX12) (T := TX12) (N := 85) hx hb hts inX12 hown hK hP 0 mwd_o0 rfl 73 (by decide) fl421 (fun _ h9 => h9) rfl dX12_does_43 ?_
      refine lv_iconst (v := 1) hx hb dX12_does_46 (by decide) ?_
      refine lv_iadd hx hb dX12_does_47 ?_
      refine lv_topi (fun i_9 ei_9 => ?_)
      have vi_9 : i_9.toInt = (σ.1 73).toInt + 1 := by have h9 := x_add ei_9 (by omega) (by omega); omega
      refine va_put (D := D) (ci := 11) (v := .int i_9) (ty := .int) (C := RX12) (T := TX12) (N := 85) hx hb hts inX12 tyX12 tyX12_ok nmX12 hown hK hP hD hS 0 mwd_o0 rfl 73 (by decide) fl421 (fun _ h9 => h9) rfl (by decide +kernel) rfl rfl (Nat.le_of_ble_eq_true rfl) dX12_does_48 (fun H locs hP hD hS => ?_)
      have hP : va_P D vwCl (mwd y ad zw (sI (tI σ 72 f_8) 73 i_9)) H := x_trP hP mwd_p0_73
      have hD : va_D A (mwd y ad zw (sI (tI σ 72 f_8) 73 i_9)) := x_trD hD mwd_p0_73
      refine lv_goto (tgt := 512) hx hb dX12_does_51 (by decide) ?_
      refine lv_iload_n hx hb dX12_does_512 rfl (lv_at hl 3 rfl) ?_
      refine lv_iconst (v := 1) hx hb dX12_does_513 (by decide) ?_
      refine lv_iadd hx hb dX12_does_514 ?_
      refine lv_topi (fun i_10 ei_10 => ?_)
      have vi_10 : i_10.toInt = k.toInt + 1 := by have h9 := x_add ei_10 (by omega) (by omega); omega
      have hP : va_P D vwCl (mwd y ad zw (tI (tI (tI (tI (tI (tI (tI (tJ (tJ (sJ (sJ (sI (sJ (sJ (sI (tI (tI (tI (tI (sI σ 73 i_9) 72 f_8) 63 (σ.2.2.1 63)) 67 (σ.2.2.1 67)) 66 (σ.2.2.1 66)) 44 (σ.1 44)) 42 (σ.2.1 42)) 43 (σ.2.1 43)) 68 (σ.1 68)) 69 (σ.2.1 69)) 70 (σ.2.1 70)) 57 (σ.2.2.2 57)) 58 (σ.2.2.2 58)) 59 (σ.2.2.1 59)) 60 (σ.2.2.1 60)) 61 (σ.2.2.1 61)) 62 (σ.2.2.1 62)) 71 (σ.2.2.1 71)) 64 (σ.2.2.1 64)) 65 (σ.2.2.1 65))) H := hP
      have hD : va_D A (mwd y ad zw (tI (tI (tI (tI (tI (tI (tI (tJ (tJ (sJ (sJ (sI (sJ (sJ (sI (tI (tI (tI (tI (sI σ 73 i_9) 72 f_8) 63 (σ.2.2.1 63)) 67 (σ.2.2.1 67)) 66 (σ.2.2.1 66)) 44 (σ.1 44)) 42 (σ.2.1 42)) 43 (σ.2.1 43)) 68 (σ.1 68)) 69 (σ.2.1 69)) 70 (σ.2.1 70)) 57 (σ.2.2.2 57)) 58 (σ.2.2.2 58)) 59 (σ.2.2.1 59)) 60 (σ.2.2.1 60)) 61 (σ.2.2.1 61)) 62 (σ.2.2.1 62)) 71 (σ.2.2.1 71)) 64 (σ.2.2.1 64)) 65 (σ.2.2.1 65))) := hD
      exact x_iretW (v := i_10) (u := (i_9, f_8, (σ.2.2.1 63), (σ.2.2.1 67), (σ.2.2.1 66), (σ.1 44), (σ.2.1 42), (σ.2.1 43), (σ.1 68), (σ.2.1 69), (σ.2.1 70), (σ.2.2.2 57), (σ.2.2.2 58), (σ.2.2.1 59), (σ.2.2.1 60), (σ.2.2.1 61), (σ.2.2.1 62), (σ.2.2.1 71), (σ.2.2.1 64), (σ.2.2.1 65))) hx hb hr hQ (by (try dsimp only); exact ⟨⟨Or.inr ⟨(i + 1), (true :: T), b1, (by push_cast; omega), hn, (by (try simp only [List.length_cons]); omega), pf_8, hh, (MU_fwd hb1 (by omega)), rfl⟩, hop, by omega, by omega, rfl⟩, hB57, hB58, hB62, hB63, hB64, hB65⟩) hP hD hK hS dX12_does_515 hlocks
  · skip
    refine lv_istore_n (lv' := [(3, .int i_2), (0, .ref (ad 1)), (1, .int 1), (2, .int k)]) hx hb dX12_does_10 rfl hl (by decide) rfl (fun ls hl => ?_)
    refine lv_iload_n hx hb dX12_does_11 rfl (lv_at hl 0 rfl) ?_
    refine lv_sipush (v := 1000) hx hb dX12_does_12 (by decide) ?_
    refine lv_icmp_lt (tgt := 54) hx hb dX12_does_15 (by decide) (fun c_11 => ?_) (fun c_11 => ?_)
    · have kc_11 : i_2.toInt < 1000 := by have h9 := c_11; simp only [ge_iff_le, gt_iff_lt, x_lt, x_le, x_eq, ne_eq, Int32.not_lt, Int32.not_le] at h9; simp only [Int32.reduceToInt] at h9; omega
      refine lv_iload_n hx hb dX12_does_54 rfl (lv_at hl 0 rfl) ?_
      refine lv_sipush (v := 502) hx hb dX12_does_55 (by decide) ?_
      refine lv_icmp_ne (tgt := 74) hx hb dX12_does_58 (by decide) (fun c_12 => ?_) (fun c_12 => ?_)
      · have kc_12 : i_2.toInt ≠ 502 := by have h9 := c_12; simp only [ge_iff_le, gt_iff_lt, x_lt, x_le, x_eq, ne_eq, Int32.not_lt, Int32.not_le] at h9; simp only [Int32.reduceToInt] at h9; omega
        refine lv_iload_n hx hb dX12_does_74 rfl (lv_at hl 0 rfl) ?_
        refine lv_sipush (v := 501) hx hb dX12_does_75 (by decide) ?_
        refine lv_icmp_ne (tgt := 122) hx hb dX12_does_78 (by decide) (fun c_13 => ?_) (fun c_13 => ?_)
        · have kc_13 : i_2.toInt ≠ 501 := by have h9 := c_13; simp only [ge_iff_le, gt_iff_lt, x_lt, x_le, x_eq, ne_eq, Int32.not_lt, Int32.not_le] at h9; simp only [Int32.reduceToInt] at h9; omega
          refine lv_iload_n hx hb dX12_does_122 rfl (lv_at hl 0 rfl) ?_
          refine lv_sipush (v := 500) hx hb dX12_does_123 (by decide) ?_
          refine lv_icmp_ne (tgt := 197) hx hb dX12_does_126 (by decide) (fun c_14 => ?_) (fun c_14 => ?_)
          · have kc_14 : i_2.toInt ≠ 500 := by have h9 := c_14; simp only [ge_iff_le, gt_iff_lt, x_lt, x_le, x_eq, ne_eq, Int32.not_lt, Int32.not_le] at h9; simp only [Int32.reduceToInt] at h9; omega
            refine lv_iload_n hx hb dX12_does_197 rfl (lv_at hl 0 rfl) ?_
            refine lv_sipush (v := 400) hx hb dX12_does_198 (by decide) ?_
            refine lv_icmp_lt (tgt := 251) hx hb dX12_does_201 (by decide) (fun c_15 => ?_) (fun c_15 => ?_)
            · have kc_15 : i_2.toInt < 400 := by have h9 := c_15; simp only [ge_iff_le, gt_iff_lt, x_lt, x_le, x_eq, ne_eq, Int32.not_lt, Int32.not_le] at h9; simp only [Int32.reduceToInt] at h9; omega
              refine lv_iload_n hx hb dX12_does_251 rfl (lv_at hl 0 rfl) ?_
              refine lv_sipush (v := 300) hx hb dX12_does_252 (by decide) ?_
              refine lv_icmp_lt (tgt := 290) hx hb dX12_does_255 (by decide) (fun c_16 => ?_) (fun c_16 => ?_)
              · have kc_16 : i_2.toInt < 300 := by have h9 := c_16; simp only [ge_iff_le, gt_iff_lt, x_lt, x_le, x_eq, ne_eq, Int32.not_lt, Int32.not_le] at h9; simp only [Int32.reduceToInt] at h9; omega
                refine lv_iload_n hx hb dX12_does_290 rfl (lv_at hl 0 rfl) ?_
                refine lv_sipush (v := 200) hx hb dX12_does_291 (by decide) ?_
                refine lv_icmp_lt (tgt := 348) hx hb dX12_does_294 (by decide) (fun c_17 => ?_) (fun c_17 => ?_)
                · have kc_17 : i_2.toInt < 200 := by have h9 := c_17; simp only [ge_iff_le, gt_iff_lt, x_lt, x_le, x_eq, ne_eq, Int32.not_lt, Int32.not_le] at h9; simp only [Int32.reduceToInt] at h9; omega
                  refine lv_iload_n hx hb dX12_does_348 rfl (lv_at hl 0 rfl) ?_
                  refine lv_bipush (v := 100) hx hb dX12_does_349 (by decide) ?_
                  refine lv_icmp_lt (tgt := 385) hx hb dX12_does_351 (by decide) (fun c_18 => ?_) (fun c_18 => ?_)
                  · have kc_18 : i_2.toInt < 100 := by have h9 := c_18; simp only [ge_iff_le, gt_iff_lt, x_lt, x_le, x_eq, ne_eq, Int32.not_lt, Int32.not_le] at h9; simp only [Int32.reduceToInt] at h9; omega
                    exfalso
                    omega
                  · have kc_18 : i_2.toInt ≥ 100 := by have h9 := c_18; simp only [ge_iff_le, gt_iff_lt, x_lt, x_le, x_eq, ne_eq, Int32.not_lt, Int32.not_le] at h9; simp only [Int32.reduceToInt] at h9; omega
                    refine lv_aload_n hx hb dX12_does_354 rfl (lv_at hl 1 rfl) ?_
                    refine va_get (D := D) (ci := 11) (v := .ref (ad 72)) (C := RX12) (T := TX12) (N := 85) hx hb hts inX12 hown hK hP 0 mwd_o0 rfl 72 (by decide) fl160 (fun _ h9 => h9) rfl dX12_does_355 ?_
                    refine lv_aload_n hx hb dX12_does_358 rfl (lv_at hl 1 rfl) ?_
                    refine va_get (D := D) (ci := 11) (v := .int (σ.1 73)) (C := RX12) (T := TX12) (N := 85) hx hb hts inX12 hown hK hP 0 mwd_o0 rfl 73 (by decide) fl421 (fun _ h9 => h9) rfl dX12_does_359 ?_
                    refine lv_aload_n hx hb dX12_does_362 rfl (lv_at hl 1 rfl) ?_
                    refine va_get (D := D) (ci := 11) (v := .ref (ad 71)) (C := RX12) (T := TX12) (N := 85) hx hb hts inX12 hown hK hP 0 mwd_o0 rfl 71 (by decide) fl157 (fun _ h9 => h9) rfl dX12_does_363 ?_
                    refine lv_iload_n hx hb dX12_does_366 rfl (lv_at hl 0 rfl) ?_
                    refine lv_bipush (v := 100) hx hb dX12_does_367 (by decide) ?_
                    refine lv_isub hx hb dX12_does_369 ?_
                    refine lv_topi (fun i_19 ei_19 => ?_)
                    have vi_19 : i_19.toInt = i_2.toInt - 100 := by have h9 := x_sub ei_19 (by omega) (by omega); omega
                    refine va_iald hx hb hK hP 48 2 mwd_a48 rfl (x_in (by omega) (by omega)) dX12_does_370 ?_
                    refine lv_topi (fun i_20 ei_20 => ?_)
                    have ei_20 : i_20 = (σ.2.2.1 71) (Int32.toNatClampNeg i_19) := ei_20
                    have gi_20 := b_at hh ei_20
                    refine va_iast hx hb hK hP hD hS 49 2 mwd_a49 rfl (x_in (by omega) (by omega)) dX12_does_371 (fun H locs hP hD hS => ?_)
                    obtain ⟨f_21, ef_21⟩ : ∃ z9 : Nat → Int32, z9 = (upd (σ.2.2.1 72) (Int32.toNatClampNeg (σ.1 73)) i_20) := ⟨_, rfl⟩
                    have hP : va_P D vwCl (mwd y ad zw (tI σ 72 f_21)) H := by rw [ef_21]; exact x_trP hP mwd_s49
                    have hD : va_D A (mwd y ad zw (tI σ 72 f_21)) := by rw [ef_21]; exact x_trD hD mwd_s49
                    have pf_21 : PT (true :: T) f_21 ((σ.2.2.1 62) 1).toInt := by rw [ef_21]; exact PT_pushN hPT (x_cl (by omega)) (by omega) (by omega)
                    refine lv_aload_n hx hb dX12_does_372 rfl (lv_at hl 1 rfl) ?_
                    refine lv_dup hx hb dX12_does_373 rfl ?_
                    refine va_get (D := D) (ci := 11) (v := .int (σ.1 73)) (C := RX12) (T := TX12) (N := 85) hx hb hts inX12 hown hK hP 0 mwd_o0 rfl 73 (by decide) fl421 (fun _ h9 => h9) rfl dX12_does_374 ?_
                    refine lv_iconst (v := 1) hx hb dX12_does_377 (by decide) ?_
                    refine lv_iadd hx hb dX12_does_378 ?_
                    refine lv_topi (fun i_22 ei_22 => ?_)
                    have vi_22 : i_22.toInt = (σ.1 73).toInt + 1 := by have h9 := x_add ei_22 (by omega) (by omega); omega
                    refine va_put (D := D) (ci := 11) (v := .int i_22) (ty := .int) (C := RX12) (T := TX12) (N := 85) hx hb hts inX12 tyX12 tyX12_ok nmX12 hown hK hP hD hS 0 mwd_o0 rfl 73 (by decide) fl421 (fun _ h9 => h9) rfl (by decide +kernel) rfl rfl (Nat.le_of_ble_eq_true rfl) dX12_does_379 (fun H locs hP hD hS => ?_)
                    have hP : va_P D vwCl (mwd y ad zw (sI (tI σ 72 f_21) 73 i_22)) H := x_trP hP mwd_p0_73
                    have hD : va_D A (mwd y ad zw (sI (tI σ 72 f_21) 73 i_22)) := x_trD hD mwd_p0_73
                    refine lv_goto (tgt := 512) hx hb dX12_does_382 (by decide) ?_
                    refine lv_iload_n hx hb dX12_does_512 rfl (lv_at hl 3 rfl) ?_
                    refine lv_iconst (v := 1) hx hb dX12_does_513 (by decide) ?_
                    refine lv_iadd hx hb dX12_does_514 ?_
                    refine lv_topi (fun i_23 ei_23 => ?_)
                    have vi_23 : i_23.toInt = k.toInt + 1 := by have h9 := x_add ei_23 (by omega) (by omega); omega
                    have hP : va_P D vwCl (mwd y ad zw (tI (tI (tI (tI (tI (tI (tI (tJ (tJ (sJ (sJ (sI (sJ (sJ (sI (tI (tI (tI (tI (sI σ 73 i_22) 72 f_21) 63 (σ.2.2.1 63)) 67 (σ.2.2.1 67)) 66 (σ.2.2.1 66)) 44 (σ.1 44)) 42 (σ.2.1 42)) 43 (σ.2.1 43)) 68 (σ.1 68)) 69 (σ.2.1 69)) 70 (σ.2.1 70)) 57 (σ.2.2.2 57)) 58 (σ.2.2.2 58)) 59 (σ.2.2.1 59)) 60 (σ.2.2.1 60)) 61 (σ.2.2.1 61)) 62 (σ.2.2.1 62)) 71 (σ.2.2.1 71)) 64 (σ.2.2.1 64)) 65 (σ.2.2.1 65))) H := hP
                    have hD : va_D A (mwd y ad zw (tI (tI (tI (tI (tI (tI (tI (tJ (tJ (sJ (sJ (sI (sJ (sJ (sI (tI (tI (tI (tI (sI σ 73 i_22) 72 f_21) 63 (σ.2.2.1 63)) 67 (σ.2.2.1 67)) 66 (σ.2.2.1 66)) 44 (σ.1 44)) 42 (σ.2.1 42)) 43 (σ.2.1 43)) 68 (σ.1 68)) 69 (σ.2.1 69)) 70 (σ.2.1 70)) 57 (σ.2.2.2 57)) 58 (σ.2.2.2 58)) 59 (σ.2.2.1 59)) 60 (σ.2.2.1 60)) 61 (σ.2.2.1 61)) 62 (σ.2.2.1 62)) 71 (σ.2.2.1 71)) 64 (σ.2.2.1 64)) 65 (σ.2.2.1 65))) := hD
                    exact x_iretW (v := i_23) (u := (i_22, f_21, (σ.2.2.1 63), (σ.2.2.1 67), (σ.2.2.1 66), (σ.1 44), (σ.2.1 42), (σ.2.1 43), (σ.1 68), (σ.2.1 69), (σ.2.1 70), (σ.2.2.2 57), (σ.2.2.2 58), (σ.2.2.1 59), (σ.2.2.1 60), (σ.2.2.1 61), (σ.2.2.1 62), (σ.2.2.1 71), (σ.2.2.1 64), (σ.2.2.1 65))) hx hb hr hQ (by (try dsimp only); exact ⟨⟨Or.inr ⟨(i + 1), (true :: T), b1, (by push_cast; omega), hn, (by (try simp only [List.length_cons]); omega), pf_21, hh, (MU_fwd hb1 (by omega)), rfl⟩, hop, by omega, by omega, rfl⟩, hB57, hB58, hB62, hB63, hB64, hB65⟩) hP hD hK hS dX12_does_515 hlocks
                · have kc_17 : i_2.toInt ≥ 200 := by have h9 := c_17; simp only [ge_iff_le, gt_iff_lt, x_lt, x_le, x_eq, ne_eq, Int32.not_lt, Int32.not_le] at h9; simp only [Int32.reduceToInt] at h9; omega
                  exfalso
                  omega
              · have kc_16 : i_2.toInt ≥ 300 := by have h9 := c_16; simp only [ge_iff_le, gt_iff_lt, x_lt, x_le, x_eq, ne_eq, Int32.not_lt, Int32.not_le] at h9; simp only [Int32.reduceToInt] at h9; omega
                exfalso
                omega
            · have kc_15 : i_2.toInt ≥ 400 := by have h9 := c_15; simp only [ge_iff_le, gt_iff_lt, x_lt, x_le, x_eq, ne_eq, Int32.not_lt, Int32.not_le] at h9; simp only [Int32.reduceToInt] at h9; omega
              exfalso
              omega
          · have kc_14 : i_2.toInt = 500 := by have h9 := c_14; simp only [ge_iff_le, gt_iff_lt, x_lt, x_le, x_eq, ne_eq, Int32.not_lt, Int32.not_le] at h9; simp only [Int32.reduceToInt] at h9; omega
            exfalso
            omega
        · have kc_13 : i_2.toInt = 501 := by have h9 := c_13; simp only [ge_iff_le, gt_iff_lt, x_lt, x_le, x_eq, ne_eq, Int32.not_lt, Int32.not_le] at h9; simp only [Int32.reduceToInt] at h9; omega
          exfalso
          omega
      · have kc_12 : i_2.toInt = 502 := by have h9 := c_12; simp only [ge_iff_le, gt_iff_lt, x_lt, x_le, x_eq, ne_eq, Int32.not_lt, Int32.not_le] at h9; simp only [Int32.reduceToInt] at h9; omega
        exfalso
        omega
    · have kc_11 : i_2.toInt ≥ 1000 := by have h9 := c_11; simp only [ge_iff_le, gt_iff_lt, x_lt, x_le, x_eq, ne_eq, Int32.not_lt, Int32.not_le] at h9; simp only [Int32.reduceToInt] at h9; omega
      exfalso
      omega
  · simp only [List.length_cons] at hp hLn
    refine lv_istore_n (lv' := [(3, .int i_2), (0, .ref (ad 1)), (1, .int 1), (2, .int k)]) hx hb dX12_does_10 rfl hl (by decide) rfl (fun ls hl => ?_)
    refine lv_iload_n hx hb dX12_does_11 rfl (lv_at hl 0 rfl) ?_
    refine lv_sipush (v := 1000) hx hb dX12_does_12 (by decide) ?_
    refine lv_icmp_lt (tgt := 54) hx hb dX12_does_15 (by decide) (fun c_24 => ?_) (fun c_24 => ?_)
    · have kc_24 : i_2.toInt < 1000 := by have h9 := c_24; simp only [ge_iff_le, gt_iff_lt, x_lt, x_le, x_eq, ne_eq, Int32.not_lt, Int32.not_le] at h9; simp only [Int32.reduceToInt] at h9; omega
      refine lv_iload_n hx hb dX12_does_54 rfl (lv_at hl 0 rfl) ?_
      refine lv_sipush (v := 502) hx hb dX12_does_55 (by decide) ?_
      refine lv_icmp_ne (tgt := 74) hx hb dX12_does_58 (by decide) (fun c_25 => ?_) (fun c_25 => ?_)
      · have kc_25 : i_2.toInt ≠ 502 := by have h9 := c_25; simp only [ge_iff_le, gt_iff_lt, x_lt, x_le, x_eq, ne_eq, Int32.not_lt, Int32.not_le] at h9; simp only [Int32.reduceToInt] at h9; omega
        refine lv_iload_n hx hb dX12_does_74 rfl (lv_at hl 0 rfl) ?_
        refine lv_sipush (v := 501) hx hb dX12_does_75 (by decide) ?_
        refine lv_icmp_ne (tgt := 122) hx hb dX12_does_78 (by decide) (fun c_26 => ?_) (fun c_26 => ?_)
        · have kc_26 : i_2.toInt ≠ 501 := by have h9 := c_26; simp only [ge_iff_le, gt_iff_lt, x_lt, x_le, x_eq, ne_eq, Int32.not_lt, Int32.not_le] at h9; simp only [Int32.reduceToInt] at h9; omega
          refine lv_iload_n hx hb dX12_does_122 rfl (lv_at hl 0 rfl) ?_
          refine lv_sipush (v := 500) hx hb dX12_does_123 (by decide) ?_
          refine lv_icmp_ne (tgt := 197) hx hb dX12_does_126 (by decide) (fun c_27 => ?_) (fun c_27 => ?_)
          · have kc_27 : i_2.toInt ≠ 500 := by have h9 := c_27; simp only [ge_iff_le, gt_iff_lt, x_lt, x_le, x_eq, ne_eq, Int32.not_lt, Int32.not_le] at h9; simp only [Int32.reduceToInt] at h9; omega
            refine lv_iload_n hx hb dX12_does_197 rfl (lv_at hl 0 rfl) ?_
            refine lv_sipush (v := 400) hx hb dX12_does_198 (by decide) ?_
            refine lv_icmp_lt (tgt := 251) hx hb dX12_does_201 (by decide) (fun c_28 => ?_) (fun c_28 => ?_)
            · have kc_28 : i_2.toInt < 400 := by have h9 := c_28; simp only [ge_iff_le, gt_iff_lt, x_lt, x_le, x_eq, ne_eq, Int32.not_lt, Int32.not_le] at h9; simp only [Int32.reduceToInt] at h9; omega
              refine lv_iload_n hx hb dX12_does_251 rfl (lv_at hl 0 rfl) ?_
              refine lv_sipush (v := 300) hx hb dX12_does_252 (by decide) ?_
              refine lv_icmp_lt (tgt := 290) hx hb dX12_does_255 (by decide) (fun c_29 => ?_) (fun c_29 => ?_)
              · have kc_29 : i_2.toInt < 300 := by have h9 := c_29; simp only [ge_iff_le, gt_iff_lt, x_lt, x_le, x_eq, ne_eq, Int32.not_lt, Int32.not_le] at h9; simp only [Int32.reduceToInt] at h9; omega
                refine lv_iload_n hx hb dX12_does_290 rfl (lv_at hl 0 rfl) ?_
                refine lv_sipush (v := 200) hx hb dX12_does_291 (by decide) ?_
                refine lv_icmp_lt (tgt := 348) hx hb dX12_does_294 (by decide) (fun c_30 => ?_) (fun c_30 => ?_)
                · have kc_30 : i_2.toInt < 200 := by have h9 := c_30; simp only [ge_iff_le, gt_iff_lt, x_lt, x_le, x_eq, ne_eq, Int32.not_lt, Int32.not_le] at h9; simp only [Int32.reduceToInt] at h9; omega
                  exfalso
                  omega
                · have kc_30 : i_2.toInt ≥ 200 := by have h9 := c_30; simp only [ge_iff_le, gt_iff_lt, x_lt, x_le, x_eq, ne_eq, Int32.not_lt, Int32.not_le] at h9; simp only [Int32.reduceToInt] at h9; omega
                  refine lv_aload_n hx hb dX12_does_297 rfl (lv_at hl 1 rfl) ?_
                  refine lv_iload_n hx hb dX12_does_298 rfl (lv_at hl 2 rfl) ?_
                  refine lv_iload_n hx hb dX12_does_299 rfl (lv_at hl 0 rfl) ?_
                  refine lv_sipush (v := 200) hx hb dX12_does_300 (by decide) ?_
                  refine lv_isub hx hb dX12_does_303 ?_
                  refine lv_topi (fun i_31 ei_31 => ?_)
                  have vi_31 : i_31.toInt = i_2.toInt - 200 := by have h9 := x_sub ei_31 (by omega) (by omega); omega
                  refine x_calliW (va_runV (As := [.int 1, .int i_31]) (rest := []) ⟨hx, hb, hml, hown, hts⟩ (q_placeOf1 l D y H.size ad zw σ i_31 (by first | omega | decide) (by first | omega | decide) T0 (by omega) (by omega) hPT (show ((σ.2.2.1 62) 1).toInt ≤ 1760 from by first | omega | decide) hB57 hB58 hB25) (cwV 2 hts g_q_does1_0 rfl rfl rfl (by decide +kernel) ⟨Nat.le_of_ble_eq_true rfl, Nat.le_of_ble_eq_true rfl⟩) (x_preV (q := (RX12, TX12, 85)) hK hP hD (ci := 11) (q0 := 0) rfl mwd_o0) rfl rfl hl.1 rfl (lv_room (Nat.le_of_ble_eq_true rfl)) dX12_does_304 ⟨Nat.le_of_ble_eq_true rfl, Nat.le_of_ble_eq_true rfl⟩) hP hD hS hA (fun r_32 u H locs hw hP hD hS => ?_)
                  obtain ⟨n_33, f_34⟩ := u
                  try dsimp only at hw
                  have hP : va_P D vwCl (mwd y ad zw (tI (sI σ 73 n_33) 67 f_34)) H := hP
                  have hD : va_D A (mwd y ad zw (tI (sI σ 73 n_33) 67 f_34)) := hD
                  have hw : n_33.toInt = (T0.length : Int) ∧ ((r_32.toInt = -1 ∧ (f_34 1).toInt ≠ 0) ∨ (20 ≤ r_32.toInt ∧ r_32.toInt ≤ 83 ∧ f_34 = (σ.2.2.1 67))) := hw
                  obtain ⟨hp2, hw⟩ := hw
                  try simp only [List.length_cons] at hp2
                  rcases hw with ⟨hr8, hst9⟩ | ⟨hr7, hr8, hst9⟩
                  · skip
                    refine lv_istore (lv' := [(4, .int r_32), (3, .int i_2), (0, .ref (ad 1)), (1, .int 1), (2, .int k)]) hx hb dX12_does_307 hl (by decide) rfl (fun ls hl => ?_)
                    refine lv_aload_n hx hb dX12_does_309 rfl (lv_at hl 2 rfl) ?_
                    refine va_get (D := D) (ci := 11) (v := .ref (ad 72)) (C := RX12) (T := TX12) (N := 85) hx hb hts inX12 hown hK hP 0 mwd_o0 rfl 72 (by decide) fl160 (fun _ h9 => h9) rfl dX12_does_310 ?_
                    refine lv_aload_n hx hb dX12_does_313 rfl (lv_at hl 2 rfl) ?_
                    refine va_get (D := D) (ci := 11) (v := .int n_33) (C := RX12) (T := TX12) (N := 85) hx hb hts inX12 hown hK hP 0 mwd_o0 rfl 73 (by decide) fl421 (fun _ h9 => h9) rfl dX12_does_314 ?_
                    refine lv_iload hx hb dX12_does_317 (lv_at hl 0 rfl) ?_
                    refine lv_iconst (v := (-1)) hx hb dX12_does_319 (by decide) ?_
                    refine lv_icmp_ne (tgt := 327) hx hb dX12_does_320 (by decide) (fun c_35 => ?_) (fun c_35 => ?_)
                    · have kc_35 : r_32.toInt ≠ (-1) := by have h9 := c_35; simp only [ge_iff_le, gt_iff_lt, x_lt, x_le, x_eq, ne_eq, Int32.not_lt, Int32.not_le] at h9; simp only [Int32.reduceToInt] at h9; omega
                      exfalso
                      omega
                    · have kc_35 : r_32.toInt = (-1) := by have h9 := c_35; simp only [ge_iff_le, gt_iff_lt, x_lt, x_le, x_eq, ne_eq, Int32.not_lt, Int32.not_le] at h9; simp only [Int32.reduceToInt] at h9; omega
                      refine lv_iconst (v := 0) hx hb dX12_does_323 (by decide) ?_
                      refine lv_goto (tgt := 334) hx hb dX12_does_324 (by decide) ?_
                      refine va_iast hx hb hK hP hD hS 49 2 mwd_a49 rfl (x_in (by omega) (by omega)) dX12_does_334 (fun H locs hP hD hS => ?_)
                      obtain ⟨f_36, ef_36⟩ : ∃ z9 : Nat → Int32, z9 = (upd (σ.2.2.1 72) (Int32.toNatClampNeg n_33) 0) := ⟨_, rfl⟩
                      have hP : va_P D vwCl (mwd y ad zw (tI (tI (sI σ 73 n_33) 67 f_34) 72 f_36)) H := by rw [ef_36]; exact x_trP hP mwd_s49
                      have hD : va_D A (mwd y ad zw (tI (tI (sI σ 73 n_33) 67 f_34) 72 f_36)) := by rw [ef_36]; exact x_trD hD mwd_s49
                      refine lv_aload_n hx hb dX12_does_335 rfl (lv_at hl 2 rfl) ?_
                      refine lv_dup hx hb dX12_does_336 rfl ?_
                      refine va_get (D := D) (ci := 11) (v := .int n_33) (C := RX12) (T := TX12) (N := 85) hx hb hts inX12 hown hK hP 0 mwd_o0 rfl 73 (by decide) fl421 (fun _ h9 => h9) rfl dX12_does_337 ?_
                      refine lv_iconst (v := 1) hx hb dX12_does_340 (by decide) ?_
                      refine lv_iadd hx hb dX12_does_341 ?_
                      refine lv_topi (fun i_37 ei_37 => ?_)
                      have vi_37 : i_37.toInt = n_33.toInt + 1 := by have h9 := x_add ei_37 (by omega) (by omega); omega
                      refine va_put (D := D) (ci := 11) (v := .int i_37) (ty := .int) (C := RX12) (T := TX12) (N := 85) hx hb hts inX12 tyX12 tyX12_ok nmX12 hown hK hP hD hS 0 mwd_o0 rfl 73 (by decide) fl421 (fun _ h9 => h9) rfl (by decide +kernel) rfl rfl (Nat.le_of_ble_eq_true rfl) dX12_does_342 (fun H locs hP hD hS => ?_)
                      have hP : va_P D vwCl (mwd y ad zw (sI (tI (tI (sI σ 73 n_33) 67 f_34) 72 f_36) 73 i_37)) H := x_trP hP mwd_p0_73
                      have hD : va_D A (mwd y ad zw (sI (tI (tI (sI σ 73 n_33) 67 f_34) 72 f_36) 73 i_37)) := x_trD hD mwd_p0_73
                      refine lv_goto (tgt := 512) hx hb dX12_does_345 (by decide) ?_
                      refine lv_iload_n hx hb dX12_does_512 rfl (lv_at hl 4 rfl) ?_
                      refine lv_iconst (v := 1) hx hb dX12_does_513 (by decide) ?_
                      refine lv_iadd hx hb dX12_does_514 ?_
                      refine lv_topi (fun i_38 ei_38 => ?_)
                      have vi_38 : i_38.toInt = k.toInt + 1 := by have h9 := x_add ei_38 (by omega) (by omega); omega
                      have hP : va_P D vwCl (mwd y ad zw (tI (tI (tI (tI (tI (tI (tI (tJ (tJ (sJ (sJ (sI (sJ (sJ (sI (tI (tI (tI (tI (sI σ 73 i_37) 72 f_36) 63 (σ.2.2.1 63)) 67 f_34) 66 (σ.2.2.1 66)) 44 (σ.1 44)) 42 (σ.2.1 42)) 43 (σ.2.1 43)) 68 (σ.1 68)) 69 (σ.2.1 69)) 70 (σ.2.1 70)) 57 (σ.2.2.2 57)) 58 (σ.2.2.2 58)) 59 (σ.2.2.1 59)) 60 (σ.2.2.1 60)) 61 (σ.2.2.1 61)) 62 (σ.2.2.1 62)) 71 (σ.2.2.1 71)) 64 (σ.2.2.1 64)) 65 (σ.2.2.1 65))) H := hP
                      have hD : va_D A (mwd y ad zw (tI (tI (tI (tI (tI (tI (tI (tJ (tJ (sJ (sJ (sI (sJ (sJ (sI (tI (tI (tI (tI (sI σ 73 i_37) 72 f_36) 63 (σ.2.2.1 63)) 67 f_34) 66 (σ.2.2.1 66)) 44 (σ.1 44)) 42 (σ.2.1 42)) 43 (σ.2.1 43)) 68 (σ.1 68)) 69 (σ.2.1 69)) 70 (σ.2.1 70)) 57 (σ.2.2.2 57)) 58 (σ.2.2.2 58)) 59 (σ.2.2.1 59)) 60 (σ.2.2.1 60)) 61 (σ.2.2.1 61)) 62 (σ.2.2.1 62)) 71 (σ.2.2.1 71)) 64 (σ.2.2.1 64)) 65 (σ.2.2.1 65))) := hD
                      exact x_iretW (v := i_38) (u := (i_37, f_36, (σ.2.2.1 63), f_34, (σ.2.2.1 66), (σ.1 44), (σ.2.1 42), (σ.2.1 43), (σ.1 68), (σ.2.1 69), (σ.2.1 70), (σ.2.2.2 57), (σ.2.2.2 58), (σ.2.2.1 59), (σ.2.2.1 60), (σ.2.2.1 61), (σ.2.2.1 62), (σ.2.2.1 71), (σ.2.2.1 64), (σ.2.2.1 65))) hx hb hr hQ (by (try dsimp only); exact ⟨⟨Or.inl hst9, hop, by omega, by omega, rfl⟩, hB57, hB58, hB62, hB63, hB64, hB65⟩) hP hD hK hS dX12_does_515 hlocks
                  · skip
                    refine lv_istore (lv' := [(4, .int r_32), (3, .int i_2), (0, .ref (ad 1)), (1, .int 1), (2, .int k)]) hx hb dX12_does_307 hl (by decide) rfl (fun ls hl => ?_)
                    refine lv_aload_n hx hb dX12_does_309 rfl (lv_at hl 2 rfl) ?_
                    refine va_get (D := D) (ci := 11) (v := .ref (ad 72)) (C := RX12) (T := TX12) (N := 85) hx hb hts inX12 hown hK hP 0 mwd_o0 rfl 72 (by decide) fl160 (fun _ h9 => h9) rfl dX12_does_310 ?_
                    refine lv_aload_n hx hb dX12_does_313 rfl (lv_at hl 2 rfl) ?_
                    refine va_get (D := D) (ci := 11) (v := .int n_33) (C := RX12) (T := TX12) (N := 85) hx hb hts inX12 hown hK hP 0 mwd_o0 rfl 73 (by decide) fl421 (fun _ h9 => h9) rfl dX12_does_314 ?_
                    refine lv_iload hx hb dX12_does_317 (lv_at hl 0 rfl) ?_
                    refine lv_iconst (v := (-1)) hx hb dX12_does_319 (by decide) ?_
                    refine lv_icmp_ne (tgt := 327) hx hb dX12_does_320 (by decide) (fun c_39 => ?_) (fun c_39 => ?_)
                    · have kc_39 : r_32.toInt ≠ (-1) := by have h9 := c_39; simp only [ge_iff_le, gt_iff_lt, x_lt, x_le, x_eq, ne_eq, Int32.not_lt, Int32.not_le] at h9; simp only [Int32.reduceToInt] at h9; omega
                      refine lv_aload_n hx hb dX12_does_327 rfl (lv_at hl 2 rfl) ?_
                      refine va_get (D := D) (ci := 11) (v := .ref (ad 71)) (C := RX12) (T := TX12) (N := 85) hx hb hts inX12 hown hK hP 0 mwd_o0 rfl 71 (by decide) fl157 (fun _ h9 => h9) rfl dX12_does_328 ?_
                      refine lv_iload hx hb dX12_does_331 (lv_at hl 0 rfl) ?_
                      refine va_iald hx hb hK hP 48 2 mwd_a48 rfl (x_in (by omega) (by omega)) dX12_does_333 ?_
                      refine lv_topi (fun i_40 ei_40 => ?_)
                      have ei_40 : i_40 = (σ.2.2.1 71) (Int32.toNatClampNeg r_32) := ei_40
                      have gi_40 := b_at hh ei_40
                      refine va_iast hx hb hK hP hD hS 49 2 mwd_a49 rfl (x_in (by omega) (by omega)) dX12_does_334 (fun H locs hP hD hS => ?_)
                      obtain ⟨f_41, ef_41⟩ : ∃ z9 : Nat → Int32, z9 = (upd (σ.2.2.1 72) (Int32.toNatClampNeg n_33) i_40) := ⟨_, rfl⟩
                      have hP : va_P D vwCl (mwd y ad zw (tI (tI (sI σ 73 n_33) 67 f_34) 72 f_41)) H := by rw [ef_41]; exact x_trP hP mwd_s49
                      have hD : va_D A (mwd y ad zw (tI (tI (sI σ 73 n_33) 67 f_34) 72 f_41)) := by rw [ef_41]; exact x_trD hD mwd_s49
                      have pf_41 : PT (true :: T0) f_41 ((σ.2.2.1 62) 1).toInt := by rw [ef_41]; exact PT_pushN hPT.2 (x_cl (by omega)) (by omega) (by omega)
                      refine lv_aload_n hx hb dX12_does_335 rfl (lv_at hl 2 rfl) ?_
                      refine lv_dup hx hb dX12_does_336 rfl ?_
                      refine va_get (D := D) (ci := 11) (v := .int n_33) (C := RX12) (T := TX12) (N := 85) hx hb hts inX12 hown hK hP 0 mwd_o0 rfl 73 (by decide) fl421 (fun _ h9 => h9) rfl dX12_does_337 ?_
                      refine lv_iconst (v := 1) hx hb dX12_does_340 (by decide) ?_
                      refine lv_iadd hx hb dX12_does_341 ?_
                      refine lv_topi (fun i_42 ei_42 => ?_)
                      have vi_42 : i_42.toInt = n_33.toInt + 1 := by have h9 := x_add ei_42 (by omega) (by omega); omega
                      refine va_put (D := D) (ci := 11) (v := .int i_42) (ty := .int) (C := RX12) (T := TX12) (N := 85) hx hb hts inX12 tyX12 tyX12_ok nmX12 hown hK hP hD hS 0 mwd_o0 rfl 73 (by decide) fl421 (fun _ h9 => h9) rfl (by decide +kernel) rfl rfl (Nat.le_of_ble_eq_true rfl) dX12_does_342 (fun H locs hP hD hS => ?_)
                      have hP : va_P D vwCl (mwd y ad zw (sI (tI (tI (sI σ 73 n_33) 67 f_34) 72 f_41) 73 i_42)) H := x_trP hP mwd_p0_73
                      have hD : va_D A (mwd y ad zw (sI (tI (tI (sI σ 73 n_33) 67 f_34) 72 f_41) 73 i_42)) := x_trD hD mwd_p0_73
                      refine lv_goto (tgt := 512) hx hb dX12_does_345 (by decide) ?_
                      refine lv_iload_n hx hb dX12_does_512 rfl (lv_at hl 4 rfl) ?_
                      refine lv_iconst (v := 1) hx hb dX12_does_513 (by decide) ?_
                      refine lv_iadd hx hb dX12_does_514 ?_
                      refine lv_topi (fun i_43 ei_43 => ?_)
                      have vi_43 : i_43.toInt = k.toInt + 1 := by have h9 := x_add ei_43 (by omega) (by omega); omega
                      have hP : va_P D vwCl (mwd y ad zw (tI (tI (tI (tI (tI (tI (tI (tJ (tJ (sJ (sJ (sI (sJ (sJ (sI (tI (tI (tI (tI (sI σ 73 i_42) 72 f_41) 63 (σ.2.2.1 63)) 67 f_34) 66 (σ.2.2.1 66)) 44 (σ.1 44)) 42 (σ.2.1 42)) 43 (σ.2.1 43)) 68 (σ.1 68)) 69 (σ.2.1 69)) 70 (σ.2.1 70)) 57 (σ.2.2.2 57)) 58 (σ.2.2.2 58)) 59 (σ.2.2.1 59)) 60 (σ.2.2.1 60)) 61 (σ.2.2.1 61)) 62 (σ.2.2.1 62)) 71 (σ.2.2.1 71)) 64 (σ.2.2.1 64)) 65 (σ.2.2.1 65))) H := hP
                      have hD : va_D A (mwd y ad zw (tI (tI (tI (tI (tI (tI (tI (tJ (tJ (sJ (sJ (sI (sJ (sJ (sI (tI (tI (tI (tI (sI σ 73 i_42) 72 f_41) 63 (σ.2.2.1 63)) 67 f_34) 66 (σ.2.2.1 66)) 44 (σ.1 44)) 42 (σ.2.1 42)) 43 (σ.2.1 43)) 68 (σ.1 68)) 69 (σ.2.1 69)) 70 (σ.2.1 70)) 57 (σ.2.2.2 57)) 58 (σ.2.2.2 58)) 59 (σ.2.2.1 59)) 60 (σ.2.2.1 60)) 61 (σ.2.2.1 61)) 62 (σ.2.2.1 62)) 71 (σ.2.2.1 71)) 64 (σ.2.2.1 64)) 65 (σ.2.2.1 65))) := hD
                      exact x_iretW (v := i_43) (u := (i_42, f_41, (σ.2.2.1 63), f_34, (σ.2.2.1 66), (σ.1 44), (σ.2.1 42), (σ.2.1 43), (σ.1 68), (σ.2.1 69), (σ.2.1 70), (σ.2.2.2 57), (σ.2.2.2 58), (σ.2.2.1 59), (σ.2.2.1 60), (σ.2.2.1 61), (σ.2.2.1 62), (σ.2.2.1 71), (σ.2.2.1 64), (σ.2.2.1 65))) hx hb hr hQ (by (try dsimp only); exact ⟨⟨Or.inr ⟨(i + 1), (true :: T0), b1, (by push_cast; omega), hn, (by (try simp only [List.length_cons]); omega), pf_41, hh, (MU_fwd hb1 (by omega)), hst9⟩, hop, by omega, by omega, rfl⟩, hB57, hB58, hB62, hB63, hB64, hB65⟩) hP hD hK hS dX12_does_515 hlocks
                    · have kc_39 : r_32.toInt = (-1) := by have h9 := c_39; simp only [ge_iff_le, gt_iff_lt, x_lt, x_le, x_eq, ne_eq, Int32.not_lt, Int32.not_le] at h9; simp only [Int32.reduceToInt] at h9; omega
                      exfalso
                      omega
              · have kc_29 : i_2.toInt ≥ 300 := by have h9 := c_29; simp only [ge_iff_le, gt_iff_lt, x_lt, x_le, x_eq, ne_eq, Int32.not_lt, Int32.not_le] at h9; simp only [Int32.reduceToInt] at h9; omega
                exfalso
                omega
            · have kc_28 : i_2.toInt ≥ 400 := by have h9 := c_28; simp only [ge_iff_le, gt_iff_lt, x_lt, x_le, x_eq, ne_eq, Int32.not_lt, Int32.not_le] at h9; simp only [Int32.reduceToInt] at h9; omega
              exfalso
              omega
          · have kc_27 : i_2.toInt = 500 := by have h9 := c_27; simp only [ge_iff_le, gt_iff_lt, x_lt, x_le, x_eq, ne_eq, Int32.not_lt, Int32.not_le] at h9; simp only [Int32.reduceToInt] at h9; omega
            exfalso
            omega
        · have kc_26 : i_2.toInt = 501 := by have h9 := c_26; simp only [ge_iff_le, gt_iff_lt, x_lt, x_le, x_eq, ne_eq, Int32.not_lt, Int32.not_le] at h9; simp only [Int32.reduceToInt] at h9; omega
          exfalso
          omega
      · have kc_25 : i_2.toInt = 502 := by have h9 := c_25; simp only [ge_iff_le, gt_iff_lt, x_lt, x_le, x_eq, ne_eq, Int32.not_lt, Int32.not_le] at h9; simp only [Int32.reduceToInt] at h9; omega
        exfalso
        omega
    · have kc_24 : i_2.toInt ≥ 1000 := by have h9 := c_24; simp only [ge_iff_le, gt_iff_lt, x_lt, x_le, x_eq, ne_eq, Int32.not_lt, Int32.not_le] at h9; simp only [Int32.reduceToInt] at h9; omega
      exfalso
      omega
  · simp only [List.length_cons] at hp hLn
    refine lv_istore_n (lv' := [(3, .int i_2), (0, .ref (ad 1)), (1, .int 1), (2, .int k)]) hx hb dX12_does_10 rfl hl (by decide) rfl (fun ls hl => ?_)
    refine lv_iload_n hx hb dX12_does_11 rfl (lv_at hl 0 rfl) ?_
    refine lv_sipush (v := 1000) hx hb dX12_does_12 (by decide) ?_
    refine lv_icmp_lt (tgt := 54) hx hb dX12_does_15 (by decide) (fun c_44 => ?_) (fun c_44 => ?_)
    · have kc_44 : i_2.toInt < 1000 := by have h9 := c_44; simp only [ge_iff_le, gt_iff_lt, x_lt, x_le, x_eq, ne_eq, Int32.not_lt, Int32.not_le] at h9; simp only [Int32.reduceToInt] at h9; omega
      refine lv_iload_n hx hb dX12_does_54 rfl (lv_at hl 0 rfl) ?_
      refine lv_sipush (v := 502) hx hb dX12_does_55 (by decide) ?_
      refine lv_icmp_ne (tgt := 74) hx hb dX12_does_58 (by decide) (fun c_45 => ?_) (fun c_45 => ?_)
      · have kc_45 : i_2.toInt ≠ 502 := by have h9 := c_45; simp only [ge_iff_le, gt_iff_lt, x_lt, x_le, x_eq, ne_eq, Int32.not_lt, Int32.not_le] at h9; simp only [Int32.reduceToInt] at h9; omega
        refine lv_iload_n hx hb dX12_does_74 rfl (lv_at hl 0 rfl) ?_
        refine lv_sipush (v := 501) hx hb dX12_does_75 (by decide) ?_
        refine lv_icmp_ne (tgt := 122) hx hb dX12_does_78 (by decide) (fun c_46 => ?_) (fun c_46 => ?_)
        · have kc_46 : i_2.toInt ≠ 501 := by have h9 := c_46; simp only [ge_iff_le, gt_iff_lt, x_lt, x_le, x_eq, ne_eq, Int32.not_lt, Int32.not_le] at h9; simp only [Int32.reduceToInt] at h9; omega
          refine lv_iload_n hx hb dX12_does_122 rfl (lv_at hl 0 rfl) ?_
          refine lv_sipush (v := 500) hx hb dX12_does_123 (by decide) ?_
          refine lv_icmp_ne (tgt := 197) hx hb dX12_does_126 (by decide) (fun c_47 => ?_) (fun c_47 => ?_)
          · have kc_47 : i_2.toInt ≠ 500 := by have h9 := c_47; simp only [ge_iff_le, gt_iff_lt, x_lt, x_le, x_eq, ne_eq, Int32.not_lt, Int32.not_le] at h9; simp only [Int32.reduceToInt] at h9; omega
            refine lv_iload_n hx hb dX12_does_197 rfl (lv_at hl 0 rfl) ?_
            refine lv_sipush (v := 400) hx hb dX12_does_198 (by decide) ?_
            refine lv_icmp_lt (tgt := 251) hx hb dX12_does_201 (by decide) (fun c_48 => ?_) (fun c_48 => ?_)
            · have kc_48 : i_2.toInt < 400 := by have h9 := c_48; simp only [ge_iff_le, gt_iff_lt, x_lt, x_le, x_eq, ne_eq, Int32.not_lt, Int32.not_le] at h9; simp only [Int32.reduceToInt] at h9; omega
              refine lv_iload_n hx hb dX12_does_251 rfl (lv_at hl 0 rfl) ?_
              refine lv_sipush (v := 300) hx hb dX12_does_252 (by decide) ?_
              refine lv_icmp_lt (tgt := 290) hx hb dX12_does_255 (by decide) (fun c_49 => ?_) (fun c_49 => ?_)
              · have kc_49 : i_2.toInt < 300 := by have h9 := c_49; simp only [ge_iff_le, gt_iff_lt, x_lt, x_le, x_eq, ne_eq, Int32.not_lt, Int32.not_le] at h9; simp only [Int32.reduceToInt] at h9; omega
                exfalso
                omega
              · have kc_49 : i_2.toInt ≥ 300 := by have h9 := c_49; simp only [ge_iff_le, gt_iff_lt, x_lt, x_le, x_eq, ne_eq, Int32.not_lt, Int32.not_le] at h9; simp only [Int32.reduceToInt] at h9; omega
                refine lv_aload_n hx hb dX12_does_258 rfl (lv_at hl 1 rfl) ?_
                refine lv_dup hx hb dX12_does_259 rfl ?_
                refine va_get (D := D) (ci := 11) (v := .int (σ.1 73)) (C := RX12) (T := TX12) (N := 85) hx hb hts inX12 hown hK hP 0 mwd_o0 rfl 73 (by decide) fl421 (fun _ h9 => h9) rfl dX12_does_260 ?_
                refine lv_iconst (v := 1) hx hb dX12_does_263 (by decide) ?_
                refine lv_isub hx hb dX12_does_264 ?_
                refine lv_topi (fun i_50 ei_50 => ?_)
                have vi_50 : i_50.toInt = (σ.1 73).toInt - 1 := by have h9 := x_sub ei_50 (by omega) (by omega); omega
                refine va_put (D := D) (ci := 11) (v := .int i_50) (ty := .int) (C := RX12) (T := TX12) (N := 85) hx hb hts inX12 tyX12 tyX12_ok nmX12 hown hK hP hD hS 0 mwd_o0 rfl 73 (by decide) fl421 (fun _ h9 => h9) rfl (by decide +kernel) rfl rfl (Nat.le_of_ble_eq_true rfl) dX12_does_265 (fun H locs hP hD hS => ?_)
                have hP : va_P D vwCl (mwd y ad zw (sI σ 73 i_50)) H := x_trP hP mwd_p0_73
                have hD : va_D A (mwd y ad zw (sI σ 73 i_50)) := x_trD hD mwd_p0_73
                refine lv_aload_n hx hb dX12_does_268 rfl (lv_at hl 1 rfl) ?_
                refine va_get (D := D) (ci := 11) (v := .ref (ad 71)) (C := RX12) (T := TX12) (N := 85) hx hb hts inX12 hown hK hP 0 mwd_o0 rfl 71 (by decide) fl157 (fun _ h9 => h9) rfl dX12_does_269 ?_
                refine lv_iload_n hx hb dX12_does_272 rfl (lv_at hl 0 rfl) ?_
                refine lv_sipush (v := 300) hx hb dX12_does_273 (by decide) ?_
                refine lv_isub hx hb dX12_does_276 ?_
                refine lv_topi (fun i_51 ei_51 => ?_)
                have vi_51 : i_51.toInt = i_2.toInt - 300 := by have h9 := x_sub ei_51 (by omega) (by omega); omega
                refine lv_aload_n hx hb dX12_does_277 rfl (lv_at hl 1 rfl) ?_
                refine va_get (D := D) (ci := 11) (v := .ref (ad 72)) (C := RX12) (T := TX12) (N := 85) hx hb hts inX12 hown hK hP 0 mwd_o0 rfl 72 (by decide) fl160 (fun _ h9 => h9) rfl dX12_does_278 ?_
                refine lv_aload_n hx hb dX12_does_281 rfl (lv_at hl 1 rfl) ?_
                refine va_get (D := D) (ci := 11) (v := .int i_50) (C := RX12) (T := TX12) (N := 85) hx hb hts inX12 hown hK hP 0 mwd_o0 rfl 73 (by decide) fl421 (fun _ h9 => h9) rfl dX12_does_282 ?_
                refine va_iald hx hb hK hP 49 2 mwd_a49 rfl (x_in (by omega) (by omega)) dX12_does_285 ?_
                refine lv_topi (fun i_52 ei_52 => ?_)
                have ei_52 : i_52 = (σ.2.2.1 72) (Int32.toNatClampNeg i_50) := ei_52
                have gi_52 := PT_N hPT ei_52 (x_cl (by omega))
                refine va_iast hx hb hK hP hD hS 48 2 mwd_a48 rfl (x_in (by omega) (by omega)) dX12_does_286 (fun H locs hP hD hS => ?_)
                obtain ⟨f_53, ef_53⟩ : ∃ z9 : Nat → Int32, z9 = (upd (σ.2.2.1 71) (Int32.toNatClampNeg i_51) i_52) := ⟨_, rfl⟩
                have hP : va_P D vwCl (mwd y ad zw (tI (sI σ 73 i_50) 71 f_53)) H := by rw [ef_53]; exact x_trP hP mwd_s48
                have hD : va_D A (mwd y ad zw (tI (sI σ 73 i_50) 71 f_53)) := by rw [ef_53]; exact x_trD hD mwd_s48
                have pf_53 : bI f_53 0 ((σ.2.2.1 62 1).toInt - 1) := by rw [ef_53]; exact b_upd hh (by omega) (by omega)
                refine lv_goto (tgt := 512) hx hb dX12_does_287 (by decide) ?_
                refine lv_iload_n hx hb dX12_does_512 rfl (lv_at hl 3 rfl) ?_
                refine lv_iconst (v := 1) hx hb dX12_does_513 (by decide) ?_
                refine lv_iadd hx hb dX12_does_514 ?_
                refine lv_topi (fun i_54 ei_54 => ?_)
                have vi_54 : i_54.toInt = k.toInt + 1 := by have h9 := x_add ei_54 (by omega) (by omega); omega
                have hP : va_P D vwCl (mwd y ad zw (tI (tI (tI (tI (tI (tI (tI (tJ (tJ (sJ (sJ (sI (sJ (sJ (sI (tI (tI (tI (tI (sI σ 73 i_50) 72 (σ.2.2.1 72)) 63 (σ.2.2.1 63)) 67 (σ.2.2.1 67)) 66 (σ.2.2.1 66)) 44 (σ.1 44)) 42 (σ.2.1 42)) 43 (σ.2.1 43)) 68 (σ.1 68)) 69 (σ.2.1 69)) 70 (σ.2.1 70)) 57 (σ.2.2.2 57)) 58 (σ.2.2.2 58)) 59 (σ.2.2.1 59)) 60 (σ.2.2.1 60)) 61 (σ.2.2.1 61)) 62 (σ.2.2.1 62)) 71 f_53) 64 (σ.2.2.1 64)) 65 (σ.2.2.1 65))) H := hP
                have hD : va_D A (mwd y ad zw (tI (tI (tI (tI (tI (tI (tI (tJ (tJ (sJ (sJ (sI (sJ (sJ (sI (tI (tI (tI (tI (sI σ 73 i_50) 72 (σ.2.2.1 72)) 63 (σ.2.2.1 63)) 67 (σ.2.2.1 67)) 66 (σ.2.2.1 66)) 44 (σ.1 44)) 42 (σ.2.1 42)) 43 (σ.2.1 43)) 68 (σ.1 68)) 69 (σ.2.1 69)) 70 (σ.2.1 70)) 57 (σ.2.2.2 57)) 58 (σ.2.2.2 58)) 59 (σ.2.2.1 59)) 60 (σ.2.2.1 60)) 61 (σ.2.2.1 61)) 62 (σ.2.2.1 62)) 71 f_53) 64 (σ.2.2.1 64)) 65 (σ.2.2.1 65))) := hD
                exact x_iretW (v := i_54) (u := (i_50, (σ.2.2.1 72), (σ.2.2.1 63), (σ.2.2.1 67), (σ.2.2.1 66), (σ.1 44), (σ.2.1 42), (σ.2.1 43), (σ.1 68), (σ.2.1 69), (σ.2.1 70), (σ.2.2.2 57), (σ.2.2.2 58), (σ.2.2.1 59), (σ.2.2.1 60), (σ.2.2.1 61), (σ.2.2.1 62), f_53, (σ.2.2.1 64), (σ.2.2.1 65))) hx hb hr hQ (by (try dsimp only); exact ⟨⟨Or.inr ⟨(i + 1), T0, b1, (by push_cast; omega), hn, (by (try simp only [List.length_cons]); omega), hPT.2, pf_53, (MU_fwd hb1 (by omega)), rfl⟩, hop, by omega, by omega, rfl⟩, hB57, hB58, hB62, hB63, hB64, hB65⟩) hP hD hK hS dX12_does_515 hlocks
            · have kc_48 : i_2.toInt ≥ 400 := by have h9 := c_48; simp only [ge_iff_le, gt_iff_lt, x_lt, x_le, x_eq, ne_eq, Int32.not_lt, Int32.not_le] at h9; simp only [Int32.reduceToInt] at h9; omega
              exfalso
              omega
          · have kc_47 : i_2.toInt = 500 := by have h9 := c_47; simp only [ge_iff_le, gt_iff_lt, x_lt, x_le, x_eq, ne_eq, Int32.not_lt, Int32.not_le] at h9; simp only [Int32.reduceToInt] at h9; omega
            exfalso
            omega
        · have kc_46 : i_2.toInt = 501 := by have h9 := c_46; simp only [ge_iff_le, gt_iff_lt, x_lt, x_le, x_eq, ne_eq, Int32.not_lt, Int32.not_le] at h9; simp only [Int32.reduceToInt] at h9; omega
          exfalso
          omega
      · have kc_45 : i_2.toInt = 502 := by have h9 := c_45; simp only [ge_iff_le, gt_iff_lt, x_lt, x_le, x_eq, ne_eq, Int32.not_lt, Int32.not_le] at h9; simp only [Int32.reduceToInt] at h9; omega
        exfalso
        omega
    · have kc_44 : i_2.toInt ≥ 1000 := by have h9 := c_44; simp only [ge_iff_le, gt_iff_lt, x_lt, x_le, x_eq, ne_eq, Int32.not_lt, Int32.not_le] at h9; simp only [Int32.reduceToInt] at h9; omega
      exfalso
      omega
  · simp only [List.length_cons] at hp hLn
    refine lv_istore_n (lv' := [(3, .int i_2), (0, .ref (ad 1)), (1, .int 1), (2, .int k)]) hx hb dX12_does_10 rfl hl (by decide) rfl (fun ls hl => ?_)
    refine lv_iload_n hx hb dX12_does_11 rfl (lv_at hl 0 rfl) ?_
    refine lv_sipush (v := 1000) hx hb dX12_does_12 (by decide) ?_
    refine lv_icmp_lt (tgt := 54) hx hb dX12_does_15 (by decide) (fun c_55 => ?_) (fun c_55 => ?_)
    · have kc_55 : i_2.toInt < 1000 := by have h9 := c_55; simp only [ge_iff_le, gt_iff_lt, x_lt, x_le, x_eq, ne_eq, Int32.not_lt, Int32.not_le] at h9; simp only [Int32.reduceToInt] at h9; omega
      refine lv_iload_n hx hb dX12_does_54 rfl (lv_at hl 0 rfl) ?_
      refine lv_sipush (v := 502) hx hb dX12_does_55 (by decide) ?_
      refine lv_icmp_ne (tgt := 74) hx hb dX12_does_58 (by decide) (fun c_56 => ?_) (fun c_56 => ?_)
      · have kc_56 : i_2.toInt ≠ 502 := by have h9 := c_56; simp only [ge_iff_le, gt_iff_lt, x_lt, x_le, x_eq, ne_eq, Int32.not_lt, Int32.not_le] at h9; simp only [Int32.reduceToInt] at h9; omega
        refine lv_iload_n hx hb dX12_does_74 rfl (lv_at hl 0 rfl) ?_
        refine lv_sipush (v := 501) hx hb dX12_does_75 (by decide) ?_
        refine lv_icmp_ne (tgt := 122) hx hb dX12_does_78 (by decide) (fun c_57 => ?_) (fun c_57 => ?_)
        · have kc_57 : i_2.toInt ≠ 501 := by have h9 := c_57; simp only [ge_iff_le, gt_iff_lt, x_lt, x_le, x_eq, ne_eq, Int32.not_lt, Int32.not_le] at h9; simp only [Int32.reduceToInt] at h9; omega
          refine lv_iload_n hx hb dX12_does_122 rfl (lv_at hl 0 rfl) ?_
          refine lv_sipush (v := 500) hx hb dX12_does_123 (by decide) ?_
          refine lv_icmp_ne (tgt := 197) hx hb dX12_does_126 (by decide) (fun c_58 => ?_) (fun c_58 => ?_)
          · have kc_58 : i_2.toInt ≠ 500 := by have h9 := c_58; simp only [ge_iff_le, gt_iff_lt, x_lt, x_le, x_eq, ne_eq, Int32.not_lt, Int32.not_le] at h9; simp only [Int32.reduceToInt] at h9; omega
            refine lv_iload_n hx hb dX12_does_197 rfl (lv_at hl 0 rfl) ?_
            refine lv_sipush (v := 400) hx hb dX12_does_198 (by decide) ?_
            refine lv_icmp_lt (tgt := 251) hx hb dX12_does_201 (by decide) (fun c_59 => ?_) (fun c_59 => ?_)
            · have kc_59 : i_2.toInt < 400 := by have h9 := c_59; simp only [ge_iff_le, gt_iff_lt, x_lt, x_le, x_eq, ne_eq, Int32.not_lt, Int32.not_le] at h9; simp only [Int32.reduceToInt] at h9; omega
              exfalso
              omega
            · have kc_59 : i_2.toInt ≥ 400 := by have h9 := c_59; simp only [ge_iff_le, gt_iff_lt, x_lt, x_le, x_eq, ne_eq, Int32.not_lt, Int32.not_le] at h9; simp only [Int32.reduceToInt] at h9; omega
              refine lv_aload_n hx hb dX12_does_204 rfl (lv_at hl 1 rfl) ?_
              refine lv_iload_n hx hb dX12_does_205 rfl (lv_at hl 2 rfl) ?_
              refine lv_iload_n hx hb dX12_does_206 rfl (lv_at hl 0 rfl) ?_
              refine lv_sipush (v := 400) hx hb dX12_does_207 (by decide) ?_
              refine lv_isub hx hb dX12_does_210 ?_
              refine lv_topi (fun i_60 ei_60 => ?_)
              have vi_60 : i_60.toInt = i_2.toInt - 400 := by have h9 := x_sub ei_60 (by omega) (by omega); omega
              refine x_calliW (va_runV (As := [.int 1, .int i_60]) (rest := []) ⟨hx, hb, hml, hown, hts⟩ (q_placeOf1 l D y H.size ad zw σ i_60 (by first | omega | decide) (by first | omega | decide) (true :: T0) (by simp only [List.length_cons]; omega) (by simp only [List.length_cons]; omega) hPT (show ((σ.2.2.1 62) 1).toInt ≤ 1760 from by first | omega | decide) hB57 hB58 hB25) (cwV 2 hts g_q_does1_0 rfl rfl rfl (by decide +kernel) ⟨Nat.le_of_ble_eq_true rfl, Nat.le_of_ble_eq_true rfl⟩) (x_preV (q := (RX12, TX12, 85)) hK hP hD (ci := 11) (q0 := 0) rfl mwd_o0) rfl rfl hl.1 rfl (lv_room (Nat.le_of_ble_eq_true rfl)) dX12_does_211 ⟨Nat.le_of_ble_eq_true rfl, Nat.le_of_ble_eq_true rfl⟩) hP hD hS hA (fun r_61 u H locs hw hP hD hS => ?_)
              obtain ⟨n_62, f_63⟩ := u
              try dsimp only at hw
              have hP : va_P D vwCl (mwd y ad zw (tI (sI σ 73 n_62) 67 f_63)) H := hP
              have hD : va_D A (mwd y ad zw (tI (sI σ 73 n_62) 67 f_63)) := hD
              have hw : n_62.toInt = ((true :: T0).length : Int) ∧ ((r_61.toInt = -1 ∧ (f_63 1).toInt ≠ 0) ∨ (20 ≤ r_61.toInt ∧ r_61.toInt ≤ 83 ∧ f_63 = (σ.2.2.1 67))) := hw
              obtain ⟨hp2, hw⟩ := hw
              try simp only [List.length_cons] at hp2
              rcases hw with ⟨hr8, hst9⟩ | ⟨hr7, hr8, hst9⟩
              · skip
                refine lv_istore (lv' := [(4, .int r_61), (3, .int i_2), (0, .ref (ad 1)), (1, .int 1), (2, .int k)]) hx hb dX12_does_214 hl (by decide) rfl (fun ls hl => ?_)
                refine lv_aload_n hx hb dX12_does_216 rfl (lv_at hl 2 rfl) ?_
                refine lv_dup hx hb dX12_does_217 rfl ?_
                refine va_get (D := D) (ci := 11) (v := .int n_62) (C := RX12) (T := TX12) (N := 85) hx hb hts inX12 hown hK hP 0 mwd_o0 rfl 73 (by decide) fl421 (fun _ h9 => h9) rfl dX12_does_218 ?_
                refine lv_iconst (v := 1) hx hb dX12_does_221 (by decide) ?_
                refine lv_isub hx hb dX12_does_222 ?_
                refine lv_topi (fun i_64 ei_64 => ?_)
                have vi_64 : i_64.toInt = n_62.toInt - 1 := by have h9 := x_sub ei_64 (by omega) (by omega); omega
                refine va_put (D := D) (ci := 11) (v := .int i_64) (ty := .int) (C := RX12) (T := TX12) (N := 85) hx hb hts inX12 tyX12 tyX12_ok nmX12 hown hK hP hD hS 0 mwd_o0 rfl 73 (by decide) fl421 (fun _ h9 => h9) rfl (by decide +kernel) rfl rfl (Nat.le_of_ble_eq_true rfl) dX12_does_223 (fun H locs hP hD hS => ?_)
                have hP : va_P D vwCl (mwd y ad zw (sI (tI (sI σ 73 n_62) 67 f_63) 73 i_64)) H := x_trP hP mwd_p0_73
                have hD : va_D A (mwd y ad zw (sI (tI (sI σ 73 n_62) 67 f_63) 73 i_64)) := x_trD hD mwd_p0_73
                refine lv_iload hx hb dX12_does_226 (lv_at hl 0 rfl) ?_
                refine lv_iconst (v := (-1)) hx hb dX12_does_228 (by decide) ?_
                refine lv_icmp_eq (tgt := 248) hx hb dX12_does_229 (by decide) (fun c_65 => ?_) (fun c_65 => ?_)
                · have kc_65 : r_61.toInt = (-1) := by have h9 := c_65; simp only [ge_iff_le, gt_iff_lt, x_lt, x_le, x_eq, ne_eq, Int32.not_lt, Int32.not_le] at h9; simp only [Int32.reduceToInt] at h9; omega
                  refine lv_goto (tgt := 512) hx hb dX12_does_248 (by decide) ?_
                  refine lv_iload_n hx hb dX12_does_512 rfl (lv_at hl 4 rfl) ?_
                  refine lv_iconst (v := 1) hx hb dX12_does_513 (by decide) ?_
                  refine lv_iadd hx hb dX12_does_514 ?_
                  refine lv_topi (fun i_66 ei_66 => ?_)
                  have vi_66 : i_66.toInt = k.toInt + 1 := by have h9 := x_add ei_66 (by omega) (by omega); omega
                  have hP : va_P D vwCl (mwd y ad zw (tI (tI (tI (tI (tI (tI (tI (tJ (tJ (sJ (sJ (sI (sJ (sJ (sI (tI (tI (tI (tI (sI σ 73 i_64) 72 (σ.2.2.1 72)) 63 (σ.2.2.1 63)) 67 f_63) 66 (σ.2.2.1 66)) 44 (σ.1 44)) 42 (σ.2.1 42)) 43 (σ.2.1 43)) 68 (σ.1 68)) 69 (σ.2.1 69)) 70 (σ.2.1 70)) 57 (σ.2.2.2 57)) 58 (σ.2.2.2 58)) 59 (σ.2.2.1 59)) 60 (σ.2.2.1 60)) 61 (σ.2.2.1 61)) 62 (σ.2.2.1 62)) 71 (σ.2.2.1 71)) 64 (σ.2.2.1 64)) 65 (σ.2.2.1 65))) H := hP
                  have hD : va_D A (mwd y ad zw (tI (tI (tI (tI (tI (tI (tI (tJ (tJ (sJ (sJ (sI (sJ (sJ (sI (tI (tI (tI (tI (sI σ 73 i_64) 72 (σ.2.2.1 72)) 63 (σ.2.2.1 63)) 67 f_63) 66 (σ.2.2.1 66)) 44 (σ.1 44)) 42 (σ.2.1 42)) 43 (σ.2.1 43)) 68 (σ.1 68)) 69 (σ.2.1 69)) 70 (σ.2.1 70)) 57 (σ.2.2.2 57)) 58 (σ.2.2.2 58)) 59 (σ.2.2.1 59)) 60 (σ.2.2.1 60)) 61 (σ.2.2.1 61)) 62 (σ.2.2.1 62)) 71 (σ.2.2.1 71)) 64 (σ.2.2.1 64)) 65 (σ.2.2.1 65))) := hD
                  exact x_iretW (v := i_66) (u := (i_64, (σ.2.2.1 72), (σ.2.2.1 63), f_63, (σ.2.2.1 66), (σ.1 44), (σ.2.1 42), (σ.2.1 43), (σ.1 68), (σ.2.1 69), (σ.2.1 70), (σ.2.2.2 57), (σ.2.2.2 58), (σ.2.2.1 59), (σ.2.2.1 60), (σ.2.2.1 61), (σ.2.2.1 62), (σ.2.2.1 71), (σ.2.2.1 64), (σ.2.2.1 65))) hx hb hr hQ (by (try dsimp only); exact ⟨⟨Or.inl hst9, hop, by omega, by omega, rfl⟩, hB57, hB58, hB62, hB63, hB64, hB65⟩) hP hD hK hS dX12_does_515 hlocks
                · have kc_65 : r_61.toInt ≠ (-1) := by have h9 := c_65; simp only [ge_iff_le, gt_iff_lt, x_lt, x_le, x_eq, ne_eq, Int32.not_lt, Int32.not_le] at h9; simp only [Int32.reduceToInt] at h9; omega
                  exfalso
                  omega
              · skip
                refine lv_istore (lv' := [(4, .int r_61), (3, .int i_2), (0, .ref (ad 1)), (1, .int 1), (2, .int k)]) hx hb dX12_does_214 hl (by decide) rfl (fun ls hl => ?_)
                refine lv_aload_n hx hb dX12_does_216 rfl (lv_at hl 2 rfl) ?_
                refine lv_dup hx hb dX12_does_217 rfl ?_
                refine va_get (D := D) (ci := 11) (v := .int n_62) (C := RX12) (T := TX12) (N := 85) hx hb hts inX12 hown hK hP 0 mwd_o0 rfl 73 (by decide) fl421 (fun _ h9 => h9) rfl dX12_does_218 ?_
                refine lv_iconst (v := 1) hx hb dX12_does_221 (by decide) ?_
                refine lv_isub hx hb dX12_does_222 ?_
                refine lv_topi (fun i_67 ei_67 => ?_)
                have vi_67 : i_67.toInt = n_62.toInt - 1 := by have h9 := x_sub ei_67 (by omega) (by omega); omega
                refine va_put (D := D) (ci := 11) (v := .int i_67) (ty := .int) (C := RX12) (T := TX12) (N := 85) hx hb hts inX12 tyX12 tyX12_ok nmX12 hown hK hP hD hS 0 mwd_o0 rfl 73 (by decide) fl421 (fun _ h9 => h9) rfl (by decide +kernel) rfl rfl (Nat.le_of_ble_eq_true rfl) dX12_does_223 (fun H locs hP hD hS => ?_)
                have hP : va_P D vwCl (mwd y ad zw (sI (tI (sI σ 73 n_62) 67 f_63) 73 i_67)) H := x_trP hP mwd_p0_73
                have hD : va_D A (mwd y ad zw (sI (tI (sI σ 73 n_62) 67 f_63) 73 i_67)) := x_trD hD mwd_p0_73
                refine lv_iload hx hb dX12_does_226 (lv_at hl 0 rfl) ?_
                refine lv_iconst (v := (-1)) hx hb dX12_does_228 (by decide) ?_
                refine lv_icmp_eq (tgt := 248) hx hb dX12_does_229 (by decide) (fun c_68 => ?_) (fun c_68 => ?_)
                · have kc_68 : r_61.toInt = (-1) := by have h9 := c_68; simp only [ge_iff_le, gt_iff_lt, x_lt, x_le, x_eq, ne_eq, Int32.not_lt, Int32.not_le] at h9; simp only [Int32.reduceToInt] at h9; omega
                  exfalso
                  omega
                · have kc_68 : r_61.toInt ≠ (-1) := by have h9 := c_68; simp only [ge_iff_le, gt_iff_lt, x_lt, x_le, x_eq, ne_eq, Int32.not_lt, Int32.not_le] at h9; simp only [Int32.reduceToInt] at h9; omega
                  refine lv_aload_n hx hb dX12_does_232 rfl (lv_at hl 2 rfl) ?_
                  refine va_get (D := D) (ci := 11) (v := .ref (ad 71)) (C := RX12) (T := TX12) (N := 85) hx hb hts inX12 hown hK hP 0 mwd_o0 rfl 71 (by decide) fl157 (fun _ h9 => h9) rfl dX12_does_233 ?_
                  refine lv_iload hx hb dX12_does_236 (lv_at hl 0 rfl) ?_
                  refine lv_aload_n hx hb dX12_does_238 rfl (lv_at hl 2 rfl) ?_
                  refine va_get (D := D) (ci := 11) (v := .ref (ad 72)) (C := RX12) (T := TX12) (N := 85) hx hb hts inX12 hown hK hP 0 mwd_o0 rfl 72 (by decide) fl160 (fun _ h9 => h9) rfl dX12_does_239 ?_
                  refine lv_aload_n hx hb dX12_does_242 rfl (lv_at hl 2 rfl) ?_
                  refine va_get (D := D) (ci := 11) (v := .int i_67) (C := RX12) (T := TX12) (N := 85) hx hb hts inX12 hown hK hP 0 mwd_o0 rfl 73 (by decide) fl421 (fun _ h9 => h9) rfl dX12_does_243 ?_
                  refine va_iald hx hb hK hP 49 2 mwd_a49 rfl (x_in (by omega) (by omega)) dX12_does_246 ?_
                  refine lv_topi (fun i_69 ei_69 => ?_)
                  have ei_69 : i_69 = (σ.2.2.1 72) (Int32.toNatClampNeg i_67) := ei_69
                  have gi_69 := PT_N hPT.2 ei_69 (x_cl (by omega))
                  refine va_iast hx hb hK hP hD hS 48 2 mwd_a48 rfl (x_in (by omega) (by omega)) dX12_does_247 (fun H locs hP hD hS => ?_)
                  obtain ⟨f_70, ef_70⟩ : ∃ z9 : Nat → Int32, z9 = (upd (σ.2.2.1 71) (Int32.toNatClampNeg r_61) i_69) := ⟨_, rfl⟩
                  have hP : va_P D vwCl (mwd y ad zw (tI (sI (tI (sI σ 73 n_62) 67 f_63) 73 i_67) 71 f_70)) H := by rw [ef_70]; exact x_trP hP mwd_s48
                  have hD : va_D A (mwd y ad zw (tI (sI (tI (sI σ 73 n_62) 67 f_63) 73 i_67) 71 f_70)) := by rw [ef_70]; exact x_trD hD mwd_s48
                  have pf_70 : bI f_70 0 ((σ.2.2.1 62 1).toInt - 1) := by rw [ef_70]; exact b_upd hh (by omega) (by omega)
                  refine lv_goto (tgt := 512) hx hb dX12_does_248 (by decide) ?_
                  refine lv_iload_n hx hb dX12_does_512 rfl (lv_at hl 4 rfl) ?_
                  refine lv_iconst (v := 1) hx hb dX12_does_513 (by decide) ?_
                  refine lv_iadd hx hb dX12_does_514 ?_
                  refine lv_topi (fun i_71 ei_71 => ?_)
                  have vi_71 : i_71.toInt = k.toInt + 1 := by have h9 := x_add ei_71 (by omega) (by omega); omega
                  have hP : va_P D vwCl (mwd y ad zw (tI (tI (tI (tI (tI (tI (tI (tJ (tJ (sJ (sJ (sI (sJ (sJ (sI (tI (tI (tI (tI (sI σ 73 i_67) 72 (σ.2.2.1 72)) 63 (σ.2.2.1 63)) 67 f_63) 66 (σ.2.2.1 66)) 44 (σ.1 44)) 42 (σ.2.1 42)) 43 (σ.2.1 43)) 68 (σ.1 68)) 69 (σ.2.1 69)) 70 (σ.2.1 70)) 57 (σ.2.2.2 57)) 58 (σ.2.2.2 58)) 59 (σ.2.2.1 59)) 60 (σ.2.2.1 60)) 61 (σ.2.2.1 61)) 62 (σ.2.2.1 62)) 71 f_70) 64 (σ.2.2.1 64)) 65 (σ.2.2.1 65))) H := hP
                  have hD : va_D A (mwd y ad zw (tI (tI (tI (tI (tI (tI (tI (tJ (tJ (sJ (sJ (sI (sJ (sJ (sI (tI (tI (tI (tI (sI σ 73 i_67) 72 (σ.2.2.1 72)) 63 (σ.2.2.1 63)) 67 f_63) 66 (σ.2.2.1 66)) 44 (σ.1 44)) 42 (σ.2.1 42)) 43 (σ.2.1 43)) 68 (σ.1 68)) 69 (σ.2.1 69)) 70 (σ.2.1 70)) 57 (σ.2.2.2 57)) 58 (σ.2.2.2 58)) 59 (σ.2.2.1 59)) 60 (σ.2.2.1 60)) 61 (σ.2.2.1 61)) 62 (σ.2.2.1 62)) 71 f_70) 64 (σ.2.2.1 64)) 65 (σ.2.2.1 65))) := hD
                  exact x_iretW (v := i_71) (u := (i_67, (σ.2.2.1 72), (σ.2.2.1 63), f_63, (σ.2.2.1 66), (σ.1 44), (σ.2.1 42), (σ.2.1 43), (σ.1 68), (σ.2.1 69), (σ.2.1 70), (σ.2.2.2 57), (σ.2.2.2 58), (σ.2.2.1 59), (σ.2.2.1 60), (σ.2.2.1 61), (σ.2.2.1 62), f_70, (σ.2.2.1 64), (σ.2.2.1 65))) hx hb hr hQ (by (try dsimp only); exact ⟨⟨Or.inr ⟨(i + 1), T0, b1, (by push_cast; omega), hn, (by (try simp only [List.length_cons]); omega), hPT.2.2, pf_70, (MU_fwd hb1 (by omega)), hst9⟩, hop, by omega, by omega, rfl⟩, hB57, hB58, hB62, hB63, hB64, hB65⟩) hP hD hK hS dX12_does_515 hlocks
          · have kc_58 : i_2.toInt = 500 := by have h9 := c_58; simp only [ge_iff_le, gt_iff_lt, x_lt, x_le, x_eq, ne_eq, Int32.not_lt, Int32.not_le] at h9; simp only [Int32.reduceToInt] at h9; omega
            exfalso
            omega
        · have kc_57 : i_2.toInt = 501 := by have h9 := c_57; simp only [ge_iff_le, gt_iff_lt, x_lt, x_le, x_eq, ne_eq, Int32.not_lt, Int32.not_le] at h9; simp only [Int32.reduceToInt] at h9; omega
          exfalso
          omega
      · have kc_56 : i_2.toInt = 502 := by have h9 := c_56; simp only [ge_iff_le, gt_iff_lt, x_lt, x_le, x_eq, ne_eq, Int32.not_lt, Int32.not_le] at h9; simp only [Int32.reduceToInt] at h9; omega
        exfalso
        omega
    · have kc_55 : i_2.toInt ≥ 1000 := by have h9 := c_55; simp only [ge_iff_le, gt_iff_lt, x_lt, x_le, x_eq, ne_eq, Int32.not_lt, Int32.not_le] at h9; simp only [Int32.reduceToInt] at h9; omega
      exfalso
      omega
  · simp only [List.length_cons] at hp hLn
    rcases (show i_2 = 500 by simp only [x_eq, Int32.reduceToInt]; omega) with rfl
    refine lv_istore_n (lv' := [(3, .int 500), (0, .ref (ad 1)), (1, .int 1), (2, .int k)]) hx hb dX12_does_10 rfl hl (by decide) rfl (fun ls hl => ?_)
    refine lv_iload_n hx hb dX12_does_11 rfl (lv_at hl 0 rfl) ?_
    refine lv_sipush (v := 1000) hx hb dX12_does_12 (by decide) ?_
    refine lv_icmp_lt (tgt := 54) hx hb dX12_does_15 (by decide) (fun c_72 => ?_) (fun c_72 => ?_)
    · refine lv_iload_n hx hb dX12_does_54 rfl (lv_at hl 0 rfl) ?_
      refine lv_sipush (v := 502) hx hb dX12_does_55 (by decide) ?_
      refine lv_icmp_ne (tgt := 74) hx hb dX12_does_58 (by decide) (fun c_73 => ?_) (fun c_73 => ?_)
      · refine lv_iload_n hx hb dX12_does_74 rfl (lv_at hl 0 rfl) ?_
        refine lv_sipush (v := 501) hx hb dX12_does_75 (by decide) ?_
        refine lv_icmp_ne (tgt := 122) hx hb dX12_does_78 (by decide) (fun c_74 => ?_) (fun c_74 => ?_)
        · refine lv_iload_n hx hb dX12_does_122 rfl (lv_at hl 0 rfl) ?_
          refine lv_sipush (v := 500) hx hb dX12_does_123 (by decide) ?_
          refine lv_icmp_ne (tgt := 197) hx hb dX12_does_126 (by decide) (fun c_75 => ?_) (fun c_75 => ?_)
          · exact absurd (by decide) c_75
          · refine lv_aload_n hx hb dX12_does_129 rfl (lv_at hl 1 rfl) ?_
            refine lv_dup hx hb dX12_does_130 rfl ?_
            refine va_get (D := D) (ci := 11) (v := .int (σ.1 73)) (C := RX12) (T := TX12) (N := 85) hx hb hts inX12 hown hK hP 0 mwd_o0 rfl 73 (by decide) fl421 (fun _ h9 => h9) rfl dX12_does_131 ?_
            refine lv_iconst (v := 1) hx hb dX12_does_134 (by decide) ?_
            refine lv_isub hx hb dX12_does_135 ?_
            refine lv_topi (fun i_76 ei_76 => ?_)
            have vi_76 : i_76.toInt = (σ.1 73).toInt - 1 := by have h9 := x_sub ei_76 (by omega) (by omega); omega
            refine va_put (D := D) (ci := 11) (v := .int i_76) (ty := .int) (C := RX12) (T := TX12) (N := 85) hx hb hts inX12 tyX12 tyX12_ok nmX12 hown hK hP hD hS 0 mwd_o0 rfl 73 (by decide) fl421 (fun _ h9 => h9) rfl (by decide +kernel) rfl rfl (Nat.le_of_ble_eq_true rfl) dX12_does_136 (fun H locs hP hD hS => ?_)
            have hP : va_P D vwCl (mwd y ad zw (sI σ 73 i_76)) H := x_trP hP mwd_p0_73
            have hD : va_D A (mwd y ad zw (sI σ 73 i_76)) := x_trD hD mwd_p0_73
            refine lv_aload_n hx hb dX12_does_139 rfl (lv_at hl 1 rfl) ?_
            refine va_get (D := D) (ci := 11) (v := .ref (ad 64)) (C := RX12) (T := TX12) (N := 85) hx hb hts inX12 hown hK hP 0 mwd_o0 rfl 64 (by decide) fl145 (fun _ h9 => h9) rfl dX12_does_140 ?_
            refine lv_iload_n hx hb dX12_does_143 rfl (lv_at hl 2 rfl) ?_
            refine va_iald hx hb hK hP 44 2 mwd_a44 rfl (x_in (by decide) (by decide)) dX12_does_144 ?_
            refine lv_topi (fun i_77 ei_77 => ?_)
            have ei_77 : i_77 = (σ.2.2.1 64) (Int32.toNatClampNeg 1) := ei_77
            have bi_77 := b_at hB64 ei_77
            refine lv_bipush (v := 12) hx hb dX12_does_145 (by decide) ?_
            refine lv_icmp_ne (tgt := 159) hx hb dX12_does_147 (by decide) (fun c_78 => ?_) (fun c_78 => ?_)
            · have kc_78 : i_77.toInt ≠ 12 := by have h9 := c_78; simp only [ge_iff_le, gt_iff_lt, x_lt, x_le, x_eq, ne_eq, Int32.not_lt, Int32.not_le] at h9; simp only [Int32.reduceToInt] at h9; omega
              refine lv_aload_n hx hb dX12_does_159 rfl (lv_at hl 1 rfl) ?_
              refine va_get (D := D) (ci := 11) (v := .ref (ad 65)) (C := RX12) (T := TX12) (N := 85) hx hb hts inX12 hown hK hP 0 mwd_o0 rfl 65 (by decide) fl148 (fun _ h9 => h9) rfl dX12_does_160 ?_
              refine lv_bipush (v := 12) hx hb dX12_does_163 (by decide) ?_
              refine lv_iload_n hx hb dX12_does_165 rfl (lv_at hl 2 rfl) ?_
              refine lv_imul hx hb dX12_does_166 ?_
              refine lv_topi (fun i_79 ei_79 => ?_)
              obtain rfl : i_79 = 12 := ei_79.trans (by decide)
              refine lv_aload_n hx hb dX12_does_167 rfl (lv_at hl 1 rfl) ?_
              refine va_get (D := D) (ci := 11) (v := .ref (ad 64)) (C := RX12) (T := TX12) (N := 85) hx hb hts inX12 hown hK hP 0 mwd_o0 rfl 64 (by decide) fl145 (fun _ h9 => h9) rfl dX12_does_168 ?_
              refine lv_iload_n hx hb dX12_does_171 rfl (lv_at hl 2 rfl) ?_
              refine va_iald hx hb hK hP 44 2 mwd_a44 rfl (x_in (by decide) (by decide)) dX12_does_172 ?_
              refine lv_topi (fun i_80 ei_80 => ?_)
              have ei_80 : i_80 = (σ.2.2.1 64) (Int32.toNatClampNeg 1) := ei_80
              have gi_80 : i_80.toInt = i_77.toInt := by rw [ei_80, ← ei_77]
              have bi_80 := b_at hB64 ei_80
              refine lv_iadd hx hb dX12_does_173 ?_
              refine lv_topi (fun i_81 ei_81 => ?_)
              have vi_81 : i_81.toInt = 12 + i_80.toInt := by have h9 := x_add ei_81 (by omega) (by omega); omega
              refine lv_aload_n hx hb dX12_does_174 rfl (lv_at hl 1 rfl) ?_
              refine va_get (D := D) (ci := 11) (v := .ref (ad 72)) (C := RX12) (T := TX12) (N := 85) hx hb hts inX12 hown hK hP 0 mwd_o0 rfl 72 (by decide) fl160 (fun _ h9 => h9) rfl dX12_does_175 ?_
              refine lv_aload_n hx hb dX12_does_178 rfl (lv_at hl 1 rfl) ?_
              refine va_get (D := D) (ci := 11) (v := .int i_76) (C := RX12) (T := TX12) (N := 85) hx hb hts inX12 hown hK hP 0 mwd_o0 rfl 73 (by decide) fl421 (fun _ h9 => h9) rfl dX12_does_179 ?_
              refine va_iald hx hb hK hP 49 2 mwd_a49 rfl (x_in (by omega) (by omega)) dX12_does_182 ?_
              refine lv_topi (fun i_82 ei_82 => ?_)
              have ei_82 : i_82 = (σ.2.2.1 72) (Int32.toNatClampNeg i_76) := ei_82
              have gi_82 := PT_N hPT ei_82 (x_cl (by omega))
              refine va_iast hx hb hK hP hD hS 45 2 mwd_a45 rfl (x_in (by omega) (by omega)) dX12_does_183 (fun H locs hP hD hS => ?_)
              obtain ⟨f_83, ef_83⟩ : ∃ z9 : Nat → Int32, z9 = (upd (σ.2.2.1 65) (Int32.toNatClampNeg i_81) i_82) := ⟨_, rfl⟩
              have hP : va_P D vwCl (mwd y ad zw (tI (sI σ 73 i_76) 65 f_83)) H := by rw [ef_83]; exact x_trP hP mwd_s45
              have hD : va_D A (mwd y ad zw (tI (sI σ 73 i_76) 65 f_83)) := by rw [ef_83]; exact x_trD hD mwd_s45
              have hvf_83 : bI f_83 0 1759 := by rw [ef_83]; exact b_upd hB65 (by omega) (by omega)
              refine lv_aload_n hx hb dX12_does_184 rfl (lv_at hl 1 rfl) ?_
              refine va_get (D := D) (ci := 11) (v := .ref (ad 64)) (C := RX12) (T := TX12) (N := 85) hx hb hts inX12 hown hK hP 0 mwd_o0 rfl 64 (by decide) fl145 (fun _ h9 => h9) rfl dX12_does_185 ?_
              refine lv_iload_n hx hb dX12_does_188 rfl (lv_at hl 2 rfl) ?_
              refine lv_dup2_11 hx hb dX12_does_189 rfl rfl ?_
              refine va_iald hx hb hK hP 44 2 mwd_a44 rfl (x_in (by decide) (by decide)) dX12_does_190 ?_
              refine lv_topi (fun i_84 ei_84 => ?_)
              have ei_84 : i_84 = (σ.2.2.1 64) (Int32.toNatClampNeg 1) := ei_84
              have gi_84 : i_84.toInt = i_77.toInt := by rw [ei_84, ← ei_77]
              have bi_84 := b_at hB64 ei_84
              refine lv_iconst (v := 1) hx hb dX12_does_191 (by decide) ?_
              refine lv_iadd hx hb dX12_does_192 ?_
              refine lv_topi (fun i_85 ei_85 => ?_)
              have vi_85 : i_85.toInt = i_84.toInt + 1 := by have h9 := x_add ei_85 (by omega) (by omega); omega
              refine va_iast hx hb hK hP hD hS 44 2 mwd_a44 rfl (x_in (by decide) (by decide)) dX12_does_193 (fun H locs hP hD hS => ?_)
              obtain ⟨f_86, ef_86⟩ : ∃ z9 : Nat → Int32, z9 = (upd (σ.2.2.1 64) (Int32.toNatClampNeg 1) i_85) := ⟨_, rfl⟩
              have hP : va_P D vwCl (mwd y ad zw (tI (tI (sI σ 73 i_76) 65 f_83) 64 f_86)) H := by rw [ef_86]; exact x_trP hP mwd_s44
              have hD : va_D A (mwd y ad zw (tI (tI (sI σ 73 i_76) 65 f_83) 64 f_86)) := by rw [ef_86]; exact x_trD hD mwd_s44
              have hvf_86 : bI f_86 0 12 := by rw [ef_86]; exact b_upd hB64 (by omega) (by omega)
              refine lv_goto (tgt := 512) hx hb dX12_does_194 (by decide) ?_
              refine lv_iload_n hx hb dX12_does_512 rfl (lv_at hl 3 rfl) ?_
              refine lv_iconst (v := 1) hx hb dX12_does_513 (by decide) ?_
              refine lv_iadd hx hb dX12_does_514 ?_
              refine lv_topi (fun i_87 ei_87 => ?_)
              have vi_87 : i_87.toInt = k.toInt + 1 := by have h9 := x_add ei_87 (by omega) (by omega); omega
              have hP : va_P D vwCl (mwd y ad zw (tI (tI (tI (tI (tI (tI (tI (tJ (tJ (sJ (sJ (sI (sJ (sJ (sI (tI (tI (tI (tI (sI σ 73 i_76) 72 (σ.2.2.1 72)) 63 (σ.2.2.1 63)) 67 (σ.2.2.1 67)) 66 (σ.2.2.1 66)) 44 (σ.1 44)) 42 (σ.2.1 42)) 43 (σ.2.1 43)) 68 (σ.1 68)) 69 (σ.2.1 69)) 70 (σ.2.1 70)) 57 (σ.2.2.2 57)) 58 (σ.2.2.2 58)) 59 (σ.2.2.1 59)) 60 (σ.2.2.1 60)) 61 (σ.2.2.1 61)) 62 (σ.2.2.1 62)) 71 (σ.2.2.1 71)) 64 f_86) 65 f_83)) H := hP
              have hD : va_D A (mwd y ad zw (tI (tI (tI (tI (tI (tI (tI (tJ (tJ (sJ (sJ (sI (sJ (sJ (sI (tI (tI (tI (tI (sI σ 73 i_76) 72 (σ.2.2.1 72)) 63 (σ.2.2.1 63)) 67 (σ.2.2.1 67)) 66 (σ.2.2.1 66)) 44 (σ.1 44)) 42 (σ.2.1 42)) 43 (σ.2.1 43)) 68 (σ.1 68)) 69 (σ.2.1 69)) 70 (σ.2.1 70)) 57 (σ.2.2.2 57)) 58 (σ.2.2.2 58)) 59 (σ.2.2.1 59)) 60 (σ.2.2.1 60)) 61 (σ.2.2.1 61)) 62 (σ.2.2.1 62)) 71 (σ.2.2.1 71)) 64 f_86) 65 f_83)) := hD
              exact x_iretW (v := i_87) (u := (i_76, (σ.2.2.1 72), (σ.2.2.1 63), (σ.2.2.1 67), (σ.2.2.1 66), (σ.1 44), (σ.2.1 42), (σ.2.1 43), (σ.1 68), (σ.2.1 69), (σ.2.1 70), (σ.2.2.2 57), (σ.2.2.2 58), (σ.2.2.1 59), (σ.2.2.1 60), (σ.2.2.1 61), (σ.2.2.1 62), (σ.2.2.1 71), f_86, f_83)) hx hb hr hQ (by (try dsimp only); exact ⟨⟨Or.inr ⟨(i + 1), T0, b1, (by push_cast; omega), hn, (by (try simp only [List.length_cons]); omega), hPT.2, hh, (MU_fwd hb1 (by omega)), rfl⟩, hop, by omega, by omega, rfl⟩, hB57, hB58, hB62, hB63, hvf_86, hvf_83⟩) hP hD hK hS dX12_does_515 hlocks
            · have kc_78 : i_77.toInt = 12 := by have h9 := c_78; simp only [ge_iff_le, gt_iff_lt, x_lt, x_le, x_eq, ne_eq, Int32.not_lt, Int32.not_le] at h9; simp only [Int32.reduceToInt] at h9; omega
              refine lv_aload_n hx hb dX12_does_150 rfl (lv_at hl 1 rfl) ?_
              refine va_get (D := D) (ci := 11) (v := .ref (ad 67)) (C := RX12) (T := TX12) (N := 85) hx hb hts inX12 hown hK hP 0 mwd_o0 rfl 67 (by decide) fl154 (fun _ h9 => h9) rfl dX12_does_151 ?_
              refine lv_iload_n hx hb dX12_does_154 rfl (lv_at hl 2 rfl) ?_
              refine lv_iconst (v := 1) hx hb dX12_does_155 (by decide) ?_
              refine va_iast hx hb hK hP hD hS 47 2 mwd_a47 rfl (x_in (by decide) (by decide)) dX12_does_156 (fun H locs hP hD hS => ?_)
              obtain ⟨f_88, ef_88⟩ : ∃ z9 : Nat → Int32, z9 = (upd (σ.2.2.1 67) (Int32.toNatClampNeg 1) 1) := ⟨_, rfl⟩
              have hP : va_P D vwCl (mwd y ad zw (tI (sI σ 73 i_76) 67 f_88)) H := by rw [ef_88]; exact x_trP hP mwd_s47
              have hD : va_D A (mwd y ad zw (tI (sI σ 73 i_76) 67 f_88)) := by rw [ef_88]; exact x_trD hD mwd_s47
              refine lv_iload_n hx hb dX12_does_157 rfl (lv_at hl 3 rfl) ?_
              have hP : va_P D vwCl (mwd y ad zw (tI (tI (tI (tI (tI (tI (tI (tJ (tJ (sJ (sJ (sI (sJ (sJ (sI (tI (tI (tI (tI (sI σ 73 i_76) 72 (σ.2.2.1 72)) 63 (σ.2.2.1 63)) 67 f_88) 66 (σ.2.2.1 66)) 44 (σ.1 44)) 42 (σ.2.1 42)) 43 (σ.2.1 43)) 68 (σ.1 68)) 69 (σ.2.1 69)) 70 (σ.2.1 70)) 57 (σ.2.2.2 57)) 58 (σ.2.2.2 58)) 59 (σ.2.2.1 59)) 60 (σ.2.2.1 60)) 61 (σ.2.2.1 61)) 62 (σ.2.2.1 62)) 71 (σ.2.2.1 71)) 64 (σ.2.2.1 64)) 65 (σ.2.2.1 65))) H := hP
              have hD : va_D A (mwd y ad zw (tI (tI (tI (tI (tI (tI (tI (tJ (tJ (sJ (sJ (sI (sJ (sJ (sI (tI (tI (tI (tI (sI σ 73 i_76) 72 (σ.2.2.1 72)) 63 (σ.2.2.1 63)) 67 f_88) 66 (σ.2.2.1 66)) 44 (σ.1 44)) 42 (σ.2.1 42)) 43 (σ.2.1 43)) 68 (σ.1 68)) 69 (σ.2.1 69)) 70 (σ.2.1 70)) 57 (σ.2.2.2 57)) 58 (σ.2.2.2 58)) 59 (σ.2.2.1 59)) 60 (σ.2.2.1 60)) 61 (σ.2.2.1 61)) 62 (σ.2.2.1 62)) 71 (σ.2.2.1 71)) 64 (σ.2.2.1 64)) 65 (σ.2.2.1 65))) := hD
              exact x_iretW (v := k) (u := (i_76, (σ.2.2.1 72), (σ.2.2.1 63), f_88, (σ.2.2.1 66), (σ.1 44), (σ.2.1 42), (σ.2.1 43), (σ.1 68), (σ.2.1 69), (σ.2.1 70), (σ.2.2.2 57), (σ.2.2.2 58), (σ.2.2.1 59), (σ.2.2.1 60), (σ.2.2.1 61), (σ.2.2.1 62), (σ.2.2.1 71), (σ.2.2.1 64), (σ.2.2.1 65))) hx hb hr hQ (by (try dsimp only); exact ⟨⟨Or.inl (by rw [ef_88]; show (upd _ 1 _ 1).toInt ≠ 0; rw [x_upd_same]; decide), hop, by omega, by omega, rfl⟩, hB57, hB58, hB62, hB63, hB64, hB65⟩) hP hD hK hS dX12_does_158 hlocks
        · exact absurd c_74 (by decide)
      · exact absurd c_73 (by decide)
    · exact absurd (by decide) c_72
  · simp only [List.length_cons] at hp hLn
    rcases (show i_2 = 501 by simp only [x_eq, Int32.reduceToInt]; omega) with rfl
    refine lv_istore_n (lv' := [(3, .int 501), (0, .ref (ad 1)), (1, .int 1), (2, .int k)]) hx hb dX12_does_10 rfl hl (by decide) rfl (fun ls hl => ?_)
    refine lv_iload_n hx hb dX12_does_11 rfl (lv_at hl 0 rfl) ?_
    refine lv_sipush (v := 1000) hx hb dX12_does_12 (by decide) ?_
    refine lv_icmp_lt (tgt := 54) hx hb dX12_does_15 (by decide) (fun c_89 => ?_) (fun c_89 => ?_)
    · refine lv_iload_n hx hb dX12_does_54 rfl (lv_at hl 0 rfl) ?_
      refine lv_sipush (v := 502) hx hb dX12_does_55 (by decide) ?_
      refine lv_icmp_ne (tgt := 74) hx hb dX12_does_58 (by decide) (fun c_90 => ?_) (fun c_90 => ?_)
      · refine lv_iload_n hx hb dX12_does_74 rfl (lv_at hl 0 rfl) ?_
        refine lv_sipush (v := 501) hx hb dX12_does_75 (by decide) ?_
        refine lv_icmp_ne (tgt := 122) hx hb dX12_does_78 (by decide) (fun c_91 => ?_) (fun c_91 => ?_)
        · exact absurd (by decide) c_91
        · refine lv_aload_n hx hb dX12_does_81 rfl (lv_at hl 1 rfl) ?_
          refine lv_dup hx hb dX12_does_82 rfl ?_
          refine va_get (D := D) (ci := 11) (v := .int (σ.1 73)) (C := RX12) (T := TX12) (N := 85) hx hb hts inX12 hown hK hP 0 mwd_o0 rfl 73 (by decide) fl421 (fun _ h9 => h9) rfl dX12_does_83 ?_
          refine lv_iconst (v := 1) hx hb dX12_does_86 (by decide) ?_
          refine lv_isub hx hb dX12_does_87 ?_
          refine lv_topi (fun i_92 ei_92 => ?_)
          have vi_92 : i_92.toInt = (σ.1 73).toInt - 1 := by have h9 := x_sub ei_92 (by omega) (by omega); omega
          refine va_put (D := D) (ci := 11) (v := .int i_92) (ty := .int) (C := RX12) (T := TX12) (N := 85) hx hb hts inX12 tyX12 tyX12_ok nmX12 hown hK hP hD hS 0 mwd_o0 rfl 73 (by decide) fl421 (fun _ h9 => h9) rfl (by decide +kernel) rfl rfl (Nat.le_of_ble_eq_true rfl) dX12_does_88 (fun H locs hP hD hS => ?_)
          have hP : va_P D vwCl (mwd y ad zw (sI σ 73 i_92)) H := x_trP hP mwd_p0_73
          have hD : va_D A (mwd y ad zw (sI σ 73 i_92)) := x_trD hD mwd_p0_73
          refine lv_aload_n hx hb dX12_does_91 rfl (lv_at hl 1 rfl) ?_
          refine va_get (D := D) (ci := 11) (v := .ref (ad 72)) (C := RX12) (T := TX12) (N := 85) hx hb hts inX12 hown hK hP 0 mwd_o0 rfl 72 (by decide) fl160 (fun _ h9 => h9) rfl dX12_does_92 ?_
          refine lv_aload_n hx hb dX12_does_95 rfl (lv_at hl 1 rfl) ?_
          refine va_get (D := D) (ci := 11) (v := .int i_92) (C := RX12) (T := TX12) (N := 85) hx hb hts inX12 hown hK hP 0 mwd_o0 rfl 73 (by decide) fl421 (fun _ h9 => h9) rfl dX12_does_96 ?_
          refine va_iald hx hb hK hP 49 2 mwd_a49 rfl (x_in (by omega) (by omega)) dX12_does_99 ?_
          refine lv_topi (fun i_93 ei_93 => ?_)
          have ei_93 : i_93 = (σ.2.2.1 72) (Int32.toNatClampNeg i_92) := ei_93
          have gi_93 := PT_F hPT ei_93 (x_cl (by omega))
          refine lv_if_ne (tgt := 118) hx hb dX12_does_100 (by decide) (fun c_94 => ?_) (fun c_94 => ?_)
          · have kc_94 : i_93.toInt ≠ 0 := by have h9 := c_94; simp only [ge_iff_le, gt_iff_lt, x_lt, x_le, x_eq, ne_eq, Int32.not_lt, Int32.not_le] at h9; simp only [Int32.reduceToInt] at h9; omega
            refine lv_iload_n hx hb dX12_does_118 rfl (lv_at hl 3 rfl) ?_
            refine lv_iconst (v := 2) hx hb dX12_does_119 (by decide) ?_
            refine lv_iadd hx hb dX12_does_120 ?_
            refine lv_topi (fun i_95 ei_95 => ?_)
            have vi_95 : i_95.toInt = k.toInt + 2 := by have h9 := x_add ei_95 (by omega) (by omega); omega
            have hP : va_P D vwCl (mwd y ad zw (tI (tI (tI (tI (tI (tI (tI (tJ (tJ (sJ (sJ (sI (sJ (sJ (sI (tI (tI (tI (tI (sI σ 73 i_92) 72 (σ.2.2.1 72)) 63 (σ.2.2.1 63)) 67 (σ.2.2.1 67)) 66 (σ.2.2.1 66)) 44 (σ.1 44)) 42 (σ.2.1 42)) 43 (σ.2.1 43)) 68 (σ.1 68)) 69 (σ.2.1 69)) 70 (σ.2.1 70)) 57 (σ.2.2.2 57)) 58 (σ.2.2.2 58)) 59 (σ.2.2.1 59)) 60 (σ.2.2.1 60)) 61 (σ.2.2.1 61)) 62 (σ.2.2.1 62)) 71 (σ.2.2.1 71)) 64 (σ.2.2.1 64)) 65 (σ.2.2.1 65))) H := hP
            have hD : va_D A (mwd y ad zw (tI (tI (tI (tI (tI (tI (tI (tJ (tJ (sJ (sJ (sI (sJ (sJ (sI (tI (tI (tI (tI (sI σ 73 i_92) 72 (σ.2.2.1 72)) 63 (σ.2.2.1 63)) 67 (σ.2.2.1 67)) 66 (σ.2.2.1 66)) 44 (σ.1 44)) 42 (σ.2.1 42)) 43 (σ.2.1 43)) 68 (σ.1 68)) 69 (σ.2.1 69)) 70 (σ.2.1 70)) 57 (σ.2.2.2 57)) 58 (σ.2.2.2 58)) 59 (σ.2.2.1 59)) 60 (σ.2.2.1 60)) 61 (σ.2.2.1 61)) 62 (σ.2.2.1 62)) 71 (σ.2.2.1 71)) 64 (σ.2.2.1 64)) 65 (σ.2.2.1 65))) := hD
            exact x_iretW (v := i_95) (u := (i_92, (σ.2.2.1 72), (σ.2.2.1 63), (σ.2.2.1 67), (σ.2.2.1 66), (σ.1 44), (σ.2.1 42), (σ.2.1 43), (σ.1 68), (σ.2.1 69), (σ.2.1 70), (σ.2.2.2 57), (σ.2.2.2 58), (σ.2.2.1 59), (σ.2.2.1 60), (σ.2.2.1 61), (σ.2.2.1 62), (σ.2.2.1 71), (σ.2.2.1 64), (σ.2.2.1 65))) hx hb hr hQ (by (try dsimp only); exact ⟨⟨Or.inr ⟨i + 2, T0, b1, by push_cast; omega, hn, by omega, hPT.2, hh, MU_fwd hb1 (by omega), rfl⟩, hop, by omega, by omega, rfl⟩, hB57, hB58, hB62, hB63, hB64, hB65⟩) hP hD hK hS dX12_does_121 hlocks
          · have kc_94 : i_93.toInt = 0 := by have h9 := c_94; simp only [ge_iff_le, gt_iff_lt, x_lt, x_le, x_eq, ne_eq, Int32.not_lt, Int32.not_le] at h9; simp only [Int32.reduceToInt] at h9; omega
            refine lv_aload_n hx hb dX12_does_103 rfl (lv_at hl 1 rfl) ?_
            refine va_get (D := D) (ci := 11) (v := .ref (ad 27)) (C := RX12) (T := TX12) (N := 85) hx hb hts inX12 hown hK hP 0 mwd_o0 rfl 27 (by decide) fl69 (fun _ h9 => h9) rfl dX12_does_104 ?_
            refine lv_sipush (v := 1200) hx hb dX12_does_107 (by decide) ?_
            refine lv_iload_n hx hb dX12_does_110 rfl (lv_at hl 3 rfl) ?_
            refine lv_iadd hx hb dX12_does_111 ?_
            refine lv_topi (fun i_96 ei_96 => ?_)
            have vi_96 : i_96.toInt = 1200 + k.toInt := by have h9 := x_add ei_96 (by omega) (by omega); omega
            refine lv_iconst (v := 1) hx hb dX12_does_112 (by decide) ?_
            refine lv_iadd hx hb dX12_does_113 ?_
            refine lv_topi (fun i_97 ei_97 => ?_)
            have vi_97 : i_97.toInt = i_96.toInt + 1 := by have h9 := x_add ei_97 (by omega) (by omega); omega
            refine va_iald hx hb hK hP 19 2 mwd_a19 rfl (x_in (by omega) (by omega)) dX12_does_114 ?_
            refine lv_topi (fun i_98 ei_98 => ?_)
            have ei_98 : i_98 = (σ.2.2.1 85) (Int32.toNatClampNeg i_97) := ei_98.trans (cj_hi (by show _ ≤ Int.toNat _; omega))
            have gi_98 : i_98.toInt = (t : Int) := by rw [ei_98, x_cl (n := 1200 + (i + 1)) (by push_cast; omega)]; exact ht
            refine lv_goto (tgt := 121) hx hb dX12_does_115 (by decide) ?_
            have hP : va_P D vwCl (mwd y ad zw (tI (tI (tI (tI (tI (tI (tI (tJ (tJ (sJ (sJ (sI (sJ (sJ (sI (tI (tI (tI (tI (sI σ 73 i_92) 72 (σ.2.2.1 72)) 63 (σ.2.2.1 63)) 67 (σ.2.2.1 67)) 66 (σ.2.2.1 66)) 44 (σ.1 44)) 42 (σ.2.1 42)) 43 (σ.2.1 43)) 68 (σ.1 68)) 69 (σ.2.1 69)) 70 (σ.2.1 70)) 57 (σ.2.2.2 57)) 58 (σ.2.2.2 58)) 59 (σ.2.2.1 59)) 60 (σ.2.2.1 60)) 61 (σ.2.2.1 61)) 62 (σ.2.2.1 62)) 71 (σ.2.2.1 71)) 64 (σ.2.2.1 64)) 65 (σ.2.2.1 65))) H := hP
            have hD : va_D A (mwd y ad zw (tI (tI (tI (tI (tI (tI (tI (tJ (tJ (sJ (sJ (sI (sJ (sJ (sI (tI (tI (tI (tI (sI σ 73 i_92) 72 (σ.2.2.1 72)) 63 (σ.2.2.1 63)) 67 (σ.2.2.1 67)) 66 (σ.2.2.1 66)) 44 (σ.1 44)) 42 (σ.2.1 42)) 43 (σ.2.1 43)) 68 (σ.1 68)) 69 (σ.2.1 69)) 70 (σ.2.1 70)) 57 (σ.2.2.2 57)) 58 (σ.2.2.2 58)) 59 (σ.2.2.1 59)) 60 (σ.2.2.1 60)) 61 (σ.2.2.1 61)) 62 (σ.2.2.1 62)) 71 (σ.2.2.1 71)) 64 (σ.2.2.1 64)) 65 (σ.2.2.1 65))) := hD
            obtain ⟨hj1, b9, hj2, hj3⟩ := hj
            exact x_iretW (v := i_98) (u := (i_92, (σ.2.2.1 72), (σ.2.2.1 63), (σ.2.2.1 67), (σ.2.2.1 66), (σ.1 44), (σ.2.1 42), (σ.2.1 43), (σ.1 68), (σ.2.1 69), (σ.2.1 70), (σ.2.2.2 57), (σ.2.2.2 58), (σ.2.2.1 59), (σ.2.2.1 60), (σ.2.2.1 61), (σ.2.2.1 62), (σ.2.2.1 71), (σ.2.2.1 64), (σ.2.2.1 65))) hx hb hr hQ (by (try dsimp only); exact ⟨⟨Or.inr ⟨t, T0, b9, by omega, hj2, by omega, hPT.2, hh, MU_jump (ty := ty) (T := T0) (n := n) (by omega) (by omega) hj1 hj3, rfl⟩, hop, by omega, by omega, rfl⟩, hB57, hB58, hB62, hB63, hB64, hB65⟩) hP hD hK hS dX12_does_121 hlocks
      · exact absurd c_90 (by decide)
    · exact absurd (by decide) c_89
  · skip
    rcases (show i_2 = 502 by simp only [x_eq, Int32.reduceToInt]; omega) with rfl
    refine lv_istore_n (lv' := [(3, .int 502), (0, .ref (ad 1)), (1, .int 1), (2, .int k)]) hx hb dX12_does_10 rfl hl (by decide) rfl (fun ls hl => ?_)
    refine lv_iload_n hx hb dX12_does_11 rfl (lv_at hl 0 rfl) ?_
    refine lv_sipush (v := 1000) hx hb dX12_does_12 (by decide) ?_
    refine lv_icmp_lt (tgt := 54) hx hb dX12_does_15 (by decide) (fun c_99 => ?_) (fun c_99 => ?_)
    · refine lv_iload_n hx hb dX12_does_54 rfl (lv_at hl 0 rfl) ?_
      refine lv_sipush (v := 502) hx hb dX12_does_55 (by decide) ?_
      refine lv_icmp_ne (tgt := 74) hx hb dX12_does_58 (by decide) (fun c_100 => ?_) (fun c_100 => ?_)
      · exact absurd (by decide) c_100
      · refine lv_aload_n hx hb dX12_does_61 rfl (lv_at hl 1 rfl) ?_
        refine va_get (D := D) (ci := 11) (v := .ref (ad 27)) (C := RX12) (T := TX12) (N := 85) hx hb hts inX12 hown hK hP 0 mwd_o0 rfl 27 (by decide) fl69 (fun _ h9 => h9) rfl dX12_does_62 ?_
        refine lv_sipush (v := 1200) hx hb dX12_does_65 (by decide) ?_
        refine lv_iload_n hx hb dX12_does_68 rfl (lv_at hl 3 rfl) ?_
        refine lv_iadd hx hb dX12_does_69 ?_
        refine lv_topi (fun i_101 ei_101 => ?_)
        have vi_101 : i_101.toInt = 1200 + k.toInt := by have h9 := x_add ei_101 (by omega) (by omega); omega
        refine lv_iconst (v := 1) hx hb dX12_does_70 (by decide) ?_
        refine lv_iadd hx hb dX12_does_71 ?_
        refine lv_topi (fun i_102 ei_102 => ?_)
        have vi_102 : i_102.toInt = i_101.toInt + 1 := by have h9 := x_add ei_102 (by omega) (by omega); omega
        refine va_iald hx hb hK hP 19 2 mwd_a19 rfl (x_in (by omega) (by omega)) dX12_does_72 ?_
        refine lv_topi (fun i_103 ei_103 => ?_)
        have ei_103 : i_103 = (σ.2.2.1 85) (Int32.toNatClampNeg i_102) := ei_103.trans (cj_hi (by show _ ≤ Int.toNat _; omega))
        have gi_103 : i_103.toInt = (t : Int) := by rw [ei_103, x_cl (n := 1200 + (i + 1)) (by push_cast; omega)]; exact ht
        have hP : va_P D vwCl (mwd y ad zw (tI (tI (tI (tI (tI (tI (tI (tJ (tJ (sJ (sJ (sI (sJ (sJ (sI (tI (tI (tI (tI (sI σ 73 (σ.1 73)) 72 (σ.2.2.1 72)) 63 (σ.2.2.1 63)) 67 (σ.2.2.1 67)) 66 (σ.2.2.1 66)) 44 (σ.1 44)) 42 (σ.2.1 42)) 43 (σ.2.1 43)) 68 (σ.1 68)) 69 (σ.2.1 69)) 70 (σ.2.1 70)) 57 (σ.2.2.2 57)) 58 (σ.2.2.2 58)) 59 (σ.2.2.1 59)) 60 (σ.2.2.1 60)) 61 (σ.2.2.1 61)) 62 (σ.2.2.1 62)) 71 (σ.2.2.1 71)) 64 (σ.2.2.1 64)) 65 (σ.2.2.1 65))) H := hP
        have hD : va_D A (mwd y ad zw (tI (tI (tI (tI (tI (tI (tI (tJ (tJ (sJ (sJ (sI (sJ (sJ (sI (tI (tI (tI (tI (sI σ 73 (σ.1 73)) 72 (σ.2.2.1 72)) 63 (σ.2.2.1 63)) 67 (σ.2.2.1 67)) 66 (σ.2.2.1 66)) 44 (σ.1 44)) 42 (σ.2.1 42)) 43 (σ.2.1 43)) 68 (σ.1 68)) 69 (σ.2.1 69)) 70 (σ.2.1 70)) 57 (σ.2.2.2 57)) 58 (σ.2.2.2 58)) 59 (σ.2.2.1 59)) 60 (σ.2.2.1 60)) 61 (σ.2.2.1 61)) 62 (σ.2.2.1 62)) 71 (σ.2.2.1 71)) 64 (σ.2.2.1 64)) 65 (σ.2.2.1 65))) := hD
        obtain ⟨hj1, b9, hj2, hj3⟩ := hj
        exact x_iretW (v := i_103) (u := ((σ.1 73), (σ.2.2.1 72), (σ.2.2.1 63), (σ.2.2.1 67), (σ.2.2.1 66), (σ.1 44), (σ.2.1 42), (σ.2.1 43), (σ.1 68), (σ.2.1 69), (σ.2.1 70), (σ.2.2.2 57), (σ.2.2.2 58), (σ.2.2.1 59), (σ.2.2.1 60), (σ.2.2.1 61), (σ.2.2.1 62), (σ.2.2.1 71), (σ.2.2.1 64), (σ.2.2.1 65))) hx hb hr hQ (by (try dsimp only); exact ⟨⟨Or.inr ⟨t, T, b9, by omega, hj2, by omega, hPT, hh, MU_jump (ty := ty) (T := T) (n := n) (by omega) (by omega) hj1 hj3, rfl⟩, hop, by omega, by omega, rfl⟩, hB57, hB58, hB62, hB63, hB64, hB65⟩) hP hD hK hS dX12_does_73 hlocks
    · exact absurd (by decide) c_99
  · simp only [List.length_cons] at hp hLn
    rcases (show i_2 = 1 ∨ i_2 = 2 ∨ i_2 = 3 ∨ i_2 = 4 ∨ i_2 = 5 ∨ i_2 = 6 by simp only [x_eq, Int32.reduceToInt]; omega) with rfl | rfl | rfl | rfl | rfl | rfl
    · refine lv_istore_n (lv' := [(3, .int 1), (0, .ref (ad 1)), (1, .int 1), (2, .int k)]) hx hb dX12_does_10 rfl hl (by decide) rfl (fun ls hl => ?_)
      refine lv_iload_n hx hb dX12_does_11 rfl (lv_at hl 0 rfl) ?_
      refine lv_sipush (v := 1000) hx hb dX12_does_12 (by decide) ?_
      refine lv_icmp_lt (tgt := 54) hx hb dX12_does_15 (by decide) (fun c_104 => ?_) (fun c_104 => ?_)
      · refine lv_iload_n hx hb dX12_does_54 rfl (lv_at hl 0 rfl) ?_
        refine lv_sipush (v := 502) hx hb dX12_does_55 (by decide) ?_
        refine lv_icmp_ne (tgt := 74) hx hb dX12_does_58 (by decide) (fun c_105 => ?_) (fun c_105 => ?_)
        · refine lv_iload_n hx hb dX12_does_74 rfl (lv_at hl 0 rfl) ?_
          refine lv_sipush (v := 501) hx hb dX12_does_75 (by decide) ?_
          refine lv_icmp_ne (tgt := 122) hx hb dX12_does_78 (by decide) (fun c_106 => ?_) (fun c_106 => ?_)
          · refine lv_iload_n hx hb dX12_does_122 rfl (lv_at hl 0 rfl) ?_
            refine lv_sipush (v := 500) hx hb dX12_does_123 (by decide) ?_
            refine lv_icmp_ne (tgt := 197) hx hb dX12_does_126 (by decide) (fun c_107 => ?_) (fun c_107 => ?_)
            · refine lv_iload_n hx hb dX12_does_197 rfl (lv_at hl 0 rfl) ?_
              refine lv_sipush (v := 400) hx hb dX12_does_198 (by decide) ?_
              refine lv_icmp_lt (tgt := 251) hx hb dX12_does_201 (by decide) (fun c_108 => ?_) (fun c_108 => ?_)
              · refine lv_iload_n hx hb dX12_does_251 rfl (lv_at hl 0 rfl) ?_
                refine lv_sipush (v := 300) hx hb dX12_does_252 (by decide) ?_
                refine lv_icmp_lt (tgt := 290) hx hb dX12_does_255 (by decide) (fun c_109 => ?_) (fun c_109 => ?_)
                · refine lv_iload_n hx hb dX12_does_290 rfl (lv_at hl 0 rfl) ?_
                  refine lv_sipush (v := 200) hx hb dX12_does_291 (by decide) ?_
                  refine lv_icmp_lt (tgt := 348) hx hb dX12_does_294 (by decide) (fun c_110 => ?_) (fun c_110 => ?_)
                  · refine lv_iload_n hx hb dX12_does_348 rfl (lv_at hl 0 rfl) ?_
                    refine lv_bipush (v := 100) hx hb dX12_does_349 (by decide) ?_
                    refine lv_icmp_lt (tgt := 385) hx hb dX12_does_351 (by decide) (fun c_111 => ?_) (fun c_111 => ?_)
                    · refine lv_iload_n hx hb dX12_does_385 rfl (lv_at hl 0 rfl) ?_
                      refine lv_bipush (v := 16) hx hb dX12_does_386 (by decide) ?_
                      refine lv_icmp_ne (tgt := 418) hx hb dX12_does_388 (by decide) (fun c_112 => ?_) (fun c_112 => ?_)
                      · refine lv_iload_n hx hb dX12_does_418 rfl (lv_at hl 0 rfl) ?_
                        refine lv_bipush (v := 14) hx hb dX12_does_419 (by decide) ?_
                        refine lv_icmp_eq (tgt := 430) hx hb dX12_does_421 (by decide) (fun c_113 => ?_) (fun c_113 => ?_)
                        · exact absurd c_113 (by decide)
                        · refine lv_iload_n hx hb dX12_does_424 rfl (lv_at hl 0 rfl) ?_
                          refine lv_bipush (v := 15) hx hb dX12_does_425 (by decide) ?_
                          refine lv_icmp_ne (tgt := 505) hx hb dX12_does_427 (by decide) (fun c_114 => ?_) (fun c_114 => ?_)
                          · refine lv_aload_n hx hb dX12_does_505 rfl (lv_at hl 1 rfl) ?_
                            refine lv_iload_n hx hb dX12_does_506 rfl (lv_at hl 2 rfl) ?_
                            refine lv_iload_n hx hb dX12_does_507 rfl (lv_at hl 0 rfl) ?_
                            refine x_calliW (va_runV (As := [.int 1, .int 1]) (rest := []) ⟨hx, hb, hml, hown, hts⟩ (q_works1_1 l D y H.size ad zw σ T0 (show ((σ.1 73)).toInt = (T0.length : Int) + 2 from by first | omega | decide) (by first | omega | decide) hPT hop (show 0 ≤ ((σ.2.2.1 62) 1).toInt from by first | omega | decide) (show ((σ.2.2.1 62) 1).toInt < 1760 from by first | omega | decide) hB57 hB58 hB62 hB63) (cwV 2 hts g_q_does1_1 rfl rfl rfl (by decide +kernel) ⟨Nat.le_of_ble_eq_true rfl, Nat.le_of_ble_eq_true rfl⟩) (x_preV (q := (RX12, TX12, 85)) hK hP hD (ci := 11) (q0 := 0) rfl mwd_o0) rfl rfl hl.1 rfl (lv_room (Nat.le_of_ble_eq_true rfl)) dX12_does_508 ⟨Nat.le_of_ble_eq_true rfl, Nat.le_of_ble_eq_true rfl⟩) hP hD hS hA (fun r_115 u H locs hw hP hD hS => ?_)
                            obtain ⟨n_116, f_117, f_118, f_119, f_120, n_121, j_122, j_123, n_124, j_125, j_126, f_127, f_128, f_129, f_130, f_131, f_132⟩ := u
                            try dsimp only at hw
                            have hP : va_P D vwCl (mwd y ad zw (tI (tI (tI (tI (tJ (tJ (sJ (sJ (sI (sJ (sJ (sI (tI (tI (tI (tI (sI σ 73 n_116) 72 f_117) 63 f_118) 67 f_119) 66 f_120) 44 n_121) 42 j_122) 43 j_123) 68 n_124) 69 j_125) 70 j_126) 57 f_127) 58 f_128) 59 f_129) 60 f_130) 61 f_131) 62 f_132)) H := hP
                            have hD : va_D A (mwd y ad zw (tI (tI (tI (tI (tJ (tJ (sJ (sJ (sI (sJ (sJ (sI (tI (tI (tI (tI (sI σ 73 n_116) 72 f_117) 63 f_118) 67 f_119) 66 f_120) 44 n_121) 42 j_122) 43 j_123) 68 n_124) 69 j_125) 70 j_126) 57 f_127) 58 f_128) 59 f_129) 60 f_130) 61 f_131) 62 f_132)) := hD
                            have hw : (((f_119 1).toInt ≠ 0 ∨ (n_116.toInt = (T0.length : Int) + 1 ∧ PT (true :: T0) f_117 (f_132 1).toInt ∧ (f_118 1).toInt = ((σ.2.2.1 63) 1).toInt + 1 ∧ f_119 = (σ.2.2.1 67))) ∧ opc f_129 f_130 f_131 ∧ ((σ.2.2.1 62) 1).toInt ≤ (f_132 1).toInt ∧ (f_132 1).toInt - ((σ.2.2.1 62) 1).toInt ≤ (f_118 1).toInt - ((σ.2.2.1 63) 1).toInt ∧ f_132 0 = (σ.2.2.1 62) 0) ∧ bJ f_127 (-1000000000) 1000000000 ∧ bJ f_128 0 1000000000 ∧ bI f_132 0 1760 ∧ bI f_118 0 1000 := hw
                            obtain ⟨hw, hg_133, hg_134, hg_135, hg_136⟩ := hw
                            obtain ⟨hw, ho9, hl9, hl8, hl7⟩ := hw
                            rcases hw with hst9 | ⟨hp9, hPT9, hs9, hst9⟩
                            · skip
                              refine lv_pop hx hb dX12_does_511 rfl ?_
                              refine lv_iload_n hx hb dX12_does_512 rfl (lv_at hl 3 rfl) ?_
                              refine lv_iconst (v := 1) hx hb dX12_does_513 (by decide) ?_
                              refine lv_iadd hx hb dX12_does_514 ?_
                              refine lv_topi (fun i_137 ei_137 => ?_)
                              have vi_137 : i_137.toInt = k.toInt + 1 := by have h9 := x_add ei_137 (by omega) (by omega); omega
                              have hP : va_P D vwCl (mwd y ad zw (tI (tI (tI (tI (tI (tI (tI (tJ (tJ (sJ (sJ (sI (sJ (sJ (sI (tI (tI (tI (tI (sI σ 73 n_116) 72 f_117) 63 f_118) 67 f_119) 66 f_120) 44 n_121) 42 j_122) 43 j_123) 68 n_124) 69 j_125) 70 j_126) 57 f_127) 58 f_128) 59 f_129) 60 f_130) 61 f_131) 62 f_132) 71 (σ.2.2.1 71)) 64 (σ.2.2.1 64)) 65 (σ.2.2.1 65))) H := hP
                              have hD : va_D A (mwd y ad zw (tI (tI (tI (tI (tI (tI (tI (tJ (tJ (sJ (sJ (sI (sJ (sJ (sI (tI (tI (tI (tI (sI σ 73 n_116) 72 f_117) 63 f_118) 67 f_119) 66 f_120) 44 n_121) 42 j_122) 43 j_123) 68 n_124) 69 j_125) 70 j_126) 57 f_127) 58 f_128) 59 f_129) 60 f_130) 61 f_131) 62 f_132) 71 (σ.2.2.1 71)) 64 (σ.2.2.1 64)) 65 (σ.2.2.1 65))) := hD
                              exact x_iretW (v := i_137) (u := (n_116, f_117, f_118, f_119, f_120, n_121, j_122, j_123, n_124, j_125, j_126, f_127, f_128, f_129, f_130, f_131, f_132, (σ.2.2.1 71), (σ.2.2.1 64), (σ.2.2.1 65))) hx hb hr hQ (by (try dsimp only); exact ⟨⟨Or.inl hst9, ho9, by omega, by omega, hl7⟩, hg_133, hg_134, hg_135, hg_136, hB64, hB65⟩) hP hD hK hS dX12_does_515 hlocks
                            · skip
                              refine lv_pop hx hb dX12_does_511 rfl ?_
                              refine lv_iload_n hx hb dX12_does_512 rfl (lv_at hl 3 rfl) ?_
                              refine lv_iconst (v := 1) hx hb dX12_does_513 (by decide) ?_
                              refine lv_iadd hx hb dX12_does_514 ?_
                              refine lv_topi (fun i_138 ei_138 => ?_)
                              have vi_138 : i_138.toInt = k.toInt + 1 := by have h9 := x_add ei_138 (by omega) (by omega); omega
                              have hP : va_P D vwCl (mwd y ad zw (tI (tI (tI (tI (tI (tI (tI (tJ (tJ (sJ (sJ (sI (sJ (sJ (sI (tI (tI (tI (tI (sI σ 73 n_116) 72 f_117) 63 f_118) 67 f_119) 66 f_120) 44 n_121) 42 j_122) 43 j_123) 68 n_124) 69 j_125) 70 j_126) 57 f_127) 58 f_128) 59 f_129) 60 f_130) 61 f_131) 62 f_132) 71 (σ.2.2.1 71)) 64 (σ.2.2.1 64)) 65 (σ.2.2.1 65))) H := hP
                              have hD : va_D A (mwd y ad zw (tI (tI (tI (tI (tI (tI (tI (tJ (tJ (sJ (sJ (sI (sJ (sJ (sI (tI (tI (tI (tI (sI σ 73 n_116) 72 f_117) 63 f_118) 67 f_119) 66 f_120) 44 n_121) 42 j_122) 43 j_123) 68 n_124) 69 j_125) 70 j_126) 57 f_127) 58 f_128) 59 f_129) 60 f_130) 61 f_131) 62 f_132) 71 (σ.2.2.1 71)) 64 (σ.2.2.1 64)) 65 (σ.2.2.1 65))) := hD
                              exact x_iretW (v := i_138) (u := (n_116, f_117, f_118, f_119, f_120, n_121, j_122, j_123, n_124, j_125, j_126, f_127, f_128, f_129, f_130, f_131, f_132, (σ.2.2.1 71), (σ.2.2.1 64), (σ.2.2.1 65))) hx hb hr hQ (by (try dsimp only); exact ⟨⟨Or.inr ⟨(i + 1), (true :: T0), b1, (by push_cast; omega), hn, (by (try simp only [List.length_cons]); omega), hPT9, (bI_mono hh (by omega)), (MU_step (by omega) rfl (by omega)), hst9⟩, ho9, by omega, by omega, hl7⟩, hg_133, hg_134, hg_135, hg_136, hB64, hB65⟩) hP hD hK hS dX12_does_515 hlocks
                          · exact absurd c_114 (by decide)
                      · exact absurd c_112 (by decide)
                    · exact absurd (by decide) c_111
                  · exact absurd (by decide) c_110
                · exact absurd (by decide) c_109
              · exact absurd (by decide) c_108
            · exact absurd c_107 (by decide)
          · exact absurd c_106 (by decide)
        · exact absurd c_105 (by decide)
      · exact absurd (by decide) c_104
    · refine lv_istore_n (lv' := [(3, .int 2), (0, .ref (ad 1)), (1, .int 1), (2, .int k)]) hx hb dX12_does_10 rfl hl (by decide) rfl (fun ls hl => ?_)
      refine lv_iload_n hx hb dX12_does_11 rfl (lv_at hl 0 rfl) ?_
      refine lv_sipush (v := 1000) hx hb dX12_does_12 (by decide) ?_
      refine lv_icmp_lt (tgt := 54) hx hb dX12_does_15 (by decide) (fun c_139 => ?_) (fun c_139 => ?_)
      · refine lv_iload_n hx hb dX12_does_54 rfl (lv_at hl 0 rfl) ?_
        refine lv_sipush (v := 502) hx hb dX12_does_55 (by decide) ?_
        refine lv_icmp_ne (tgt := 74) hx hb dX12_does_58 (by decide) (fun c_140 => ?_) (fun c_140 => ?_)
        · refine lv_iload_n hx hb dX12_does_74 rfl (lv_at hl 0 rfl) ?_
          refine lv_sipush (v := 501) hx hb dX12_does_75 (by decide) ?_
          refine lv_icmp_ne (tgt := 122) hx hb dX12_does_78 (by decide) (fun c_141 => ?_) (fun c_141 => ?_)
          · refine lv_iload_n hx hb dX12_does_122 rfl (lv_at hl 0 rfl) ?_
            refine lv_sipush (v := 500) hx hb dX12_does_123 (by decide) ?_
            refine lv_icmp_ne (tgt := 197) hx hb dX12_does_126 (by decide) (fun c_142 => ?_) (fun c_142 => ?_)
            · refine lv_iload_n hx hb dX12_does_197 rfl (lv_at hl 0 rfl) ?_
              refine lv_sipush (v := 400) hx hb dX12_does_198 (by decide) ?_
              refine lv_icmp_lt (tgt := 251) hx hb dX12_does_201 (by decide) (fun c_143 => ?_) (fun c_143 => ?_)
              · refine lv_iload_n hx hb dX12_does_251 rfl (lv_at hl 0 rfl) ?_
                refine lv_sipush (v := 300) hx hb dX12_does_252 (by decide) ?_
                refine lv_icmp_lt (tgt := 290) hx hb dX12_does_255 (by decide) (fun c_144 => ?_) (fun c_144 => ?_)
                · refine lv_iload_n hx hb dX12_does_290 rfl (lv_at hl 0 rfl) ?_
                  refine lv_sipush (v := 200) hx hb dX12_does_291 (by decide) ?_
                  refine lv_icmp_lt (tgt := 348) hx hb dX12_does_294 (by decide) (fun c_145 => ?_) (fun c_145 => ?_)
                  · refine lv_iload_n hx hb dX12_does_348 rfl (lv_at hl 0 rfl) ?_
                    refine lv_bipush (v := 100) hx hb dX12_does_349 (by decide) ?_
                    refine lv_icmp_lt (tgt := 385) hx hb dX12_does_351 (by decide) (fun c_146 => ?_) (fun c_146 => ?_)
                    · refine lv_iload_n hx hb dX12_does_385 rfl (lv_at hl 0 rfl) ?_
                      refine lv_bipush (v := 16) hx hb dX12_does_386 (by decide) ?_
                      refine lv_icmp_ne (tgt := 418) hx hb dX12_does_388 (by decide) (fun c_147 => ?_) (fun c_147 => ?_)
                      · refine lv_iload_n hx hb dX12_does_418 rfl (lv_at hl 0 rfl) ?_
                        refine lv_bipush (v := 14) hx hb dX12_does_419 (by decide) ?_
                        refine lv_icmp_eq (tgt := 430) hx hb dX12_does_421 (by decide) (fun c_148 => ?_) (fun c_148 => ?_)
                        · exact absurd c_148 (by decide)
                        · refine lv_iload_n hx hb dX12_does_424 rfl (lv_at hl 0 rfl) ?_
                          refine lv_bipush (v := 15) hx hb dX12_does_425 (by decide) ?_
                          refine lv_icmp_ne (tgt := 505) hx hb dX12_does_427 (by decide) (fun c_149 => ?_) (fun c_149 => ?_)
                          · refine lv_aload_n hx hb dX12_does_505 rfl (lv_at hl 1 rfl) ?_
                            refine lv_iload_n hx hb dX12_does_506 rfl (lv_at hl 2 rfl) ?_
                            refine lv_iload_n hx hb dX12_does_507 rfl (lv_at hl 0 rfl) ?_
                            refine x_calliW (va_runV (As := [.int 1, .int 2]) (rest := []) ⟨hx, hb, hml, hown, hts⟩ (q_works1_2 l D y H.size ad zw σ T0 (show ((σ.1 73)).toInt = (T0.length : Int) + 2 from by first | omega | decide) (by first | omega | decide) hPT hop (show 0 ≤ ((σ.2.2.1 62) 1).toInt from by first | omega | decide) (show ((σ.2.2.1 62) 1).toInt < 1760 from by first | omega | decide) hB57 hB58 hB62 hB63) (cwV 2 hts g_q_does1_2 rfl rfl rfl (by decide +kernel) ⟨Nat.le_of_ble_eq_true rfl, Nat.le_of_ble_eq_true rfl⟩) (x_preV (q := (RX12, TX12, 85)) hK hP hD (ci := 11) (q0 := 0) rfl mwd_o0) rfl rfl hl.1 rfl (lv_room (Nat.le_of_ble_eq_true rfl)) dX12_does_508 ⟨Nat.le_of_ble_eq_true rfl, Nat.le_of_ble_eq_true rfl⟩) hP hD hS hA (fun r_150 u H locs hw hP hD hS => ?_)
                            obtain ⟨n_151, f_152, f_153, f_154, f_155, n_156, j_157, j_158, n_159, j_160, j_161, f_162, f_163, f_164, f_165, f_166, f_167⟩ := u
                            try dsimp only at hw
                            have hP : va_P D vwCl (mwd y ad zw (tI (tI (tI (tI (tJ (tJ (sJ (sJ (sI (sJ (sJ (sI (tI (tI (tI (tI (sI σ 73 n_151) 72 f_152) 63 f_153) 67 f_154) 66 f_155) 44 n_156) 42 j_157) 43 j_158) 68 n_159) 69 j_160) 70 j_161) 57 f_162) 58 f_163) 59 f_164) 60 f_165) 61 f_166) 62 f_167)) H := hP
                            have hD : va_D A (mwd y ad zw (tI (tI (tI (tI (tJ (tJ (sJ (sJ (sI (sJ (sJ (sI (tI (tI (tI (tI (sI σ 73 n_151) 72 f_152) 63 f_153) 67 f_154) 66 f_155) 44 n_156) 42 j_157) 43 j_158) 68 n_159) 69 j_160) 70 j_161) 57 f_162) 58 f_163) 59 f_164) 60 f_165) 61 f_166) 62 f_167)) := hD
                            have hw : (((f_154 1).toInt ≠ 0 ∨ (n_151.toInt = (T0.length : Int) + 1 ∧ PT (true :: T0) f_152 (f_167 1).toInt ∧ (f_153 1).toInt = ((σ.2.2.1 63) 1).toInt + 1 ∧ f_154 = (σ.2.2.1 67))) ∧ opc f_164 f_165 f_166 ∧ ((σ.2.2.1 62) 1).toInt ≤ (f_167 1).toInt ∧ (f_167 1).toInt - ((σ.2.2.1 62) 1).toInt ≤ (f_153 1).toInt - ((σ.2.2.1 63) 1).toInt ∧ f_167 0 = (σ.2.2.1 62) 0) ∧ bJ f_162 (-1000000000) 1000000000 ∧ bJ f_163 0 1000000000 ∧ bI f_167 0 1760 ∧ bI f_153 0 1000 := hw
                            obtain ⟨hw, hg_168, hg_169, hg_170, hg_171⟩ := hw
                            obtain ⟨hw, ho9, hl9, hl8, hl7⟩ := hw
                            rcases hw with hst9 | ⟨hp9, hPT9, hs9, hst9⟩
                            · skip
                              refine lv_pop hx hb dX12_does_511 rfl ?_
                              refine lv_iload_n hx hb dX12_does_512 rfl (lv_at hl 3 rfl) ?_
                              refine lv_iconst (v := 1) hx hb dX12_does_513 (by decide) ?_
                              refine lv_iadd hx hb dX12_does_514 ?_
                              refine lv_topi (fun i_172 ei_172 => ?_)
                              have vi_172 : i_172.toInt = k.toInt + 1 := by have h9 := x_add ei_172 (by omega) (by omega); omega
                              have hP : va_P D vwCl (mwd y ad zw (tI (tI (tI (tI (tI (tI (tI (tJ (tJ (sJ (sJ (sI (sJ (sJ (sI (tI (tI (tI (tI (sI σ 73 n_151) 72 f_152) 63 f_153) 67 f_154) 66 f_155) 44 n_156) 42 j_157) 43 j_158) 68 n_159) 69 j_160) 70 j_161) 57 f_162) 58 f_163) 59 f_164) 60 f_165) 61 f_166) 62 f_167) 71 (σ.2.2.1 71)) 64 (σ.2.2.1 64)) 65 (σ.2.2.1 65))) H := hP
                              have hD : va_D A (mwd y ad zw (tI (tI (tI (tI (tI (tI (tI (tJ (tJ (sJ (sJ (sI (sJ (sJ (sI (tI (tI (tI (tI (sI σ 73 n_151) 72 f_152) 63 f_153) 67 f_154) 66 f_155) 44 n_156) 42 j_157) 43 j_158) 68 n_159) 69 j_160) 70 j_161) 57 f_162) 58 f_163) 59 f_164) 60 f_165) 61 f_166) 62 f_167) 71 (σ.2.2.1 71)) 64 (σ.2.2.1 64)) 65 (σ.2.2.1 65))) := hD
                              exact x_iretW (v := i_172) (u := (n_151, f_152, f_153, f_154, f_155, n_156, j_157, j_158, n_159, j_160, j_161, f_162, f_163, f_164, f_165, f_166, f_167, (σ.2.2.1 71), (σ.2.2.1 64), (σ.2.2.1 65))) hx hb hr hQ (by (try dsimp only); exact ⟨⟨Or.inl hst9, ho9, by omega, by omega, hl7⟩, hg_168, hg_169, hg_170, hg_171, hB64, hB65⟩) hP hD hK hS dX12_does_515 hlocks
                            · skip
                              refine lv_pop hx hb dX12_does_511 rfl ?_
                              refine lv_iload_n hx hb dX12_does_512 rfl (lv_at hl 3 rfl) ?_
                              refine lv_iconst (v := 1) hx hb dX12_does_513 (by decide) ?_
                              refine lv_iadd hx hb dX12_does_514 ?_
                              refine lv_topi (fun i_173 ei_173 => ?_)
                              have vi_173 : i_173.toInt = k.toInt + 1 := by have h9 := x_add ei_173 (by omega) (by omega); omega
                              have hP : va_P D vwCl (mwd y ad zw (tI (tI (tI (tI (tI (tI (tI (tJ (tJ (sJ (sJ (sI (sJ (sJ (sI (tI (tI (tI (tI (sI σ 73 n_151) 72 f_152) 63 f_153) 67 f_154) 66 f_155) 44 n_156) 42 j_157) 43 j_158) 68 n_159) 69 j_160) 70 j_161) 57 f_162) 58 f_163) 59 f_164) 60 f_165) 61 f_166) 62 f_167) 71 (σ.2.2.1 71)) 64 (σ.2.2.1 64)) 65 (σ.2.2.1 65))) H := hP
                              have hD : va_D A (mwd y ad zw (tI (tI (tI (tI (tI (tI (tI (tJ (tJ (sJ (sJ (sI (sJ (sJ (sI (tI (tI (tI (tI (sI σ 73 n_151) 72 f_152) 63 f_153) 67 f_154) 66 f_155) 44 n_156) 42 j_157) 43 j_158) 68 n_159) 69 j_160) 70 j_161) 57 f_162) 58 f_163) 59 f_164) 60 f_165) 61 f_166) 62 f_167) 71 (σ.2.2.1 71)) 64 (σ.2.2.1 64)) 65 (σ.2.2.1 65))) := hD
                              exact x_iretW (v := i_173) (u := (n_151, f_152, f_153, f_154, f_155, n_156, j_157, j_158, n_159, j_160, j_161, f_162, f_163, f_164, f_165, f_166, f_167, (σ.2.2.1 71), (σ.2.2.1 64), (σ.2.2.1 65))) hx hb hr hQ (by (try dsimp only); exact ⟨⟨Or.inr ⟨(i + 1), (true :: T0), b1, (by push_cast; omega), hn, (by (try simp only [List.length_cons]); omega), hPT9, (bI_mono hh (by omega)), (MU_step (by omega) rfl (by omega)), hst9⟩, ho9, by omega, by omega, hl7⟩, hg_168, hg_169, hg_170, hg_171, hB64, hB65⟩) hP hD hK hS dX12_does_515 hlocks
                          · exact absurd c_149 (by decide)
                      · exact absurd c_147 (by decide)
                    · exact absurd (by decide) c_146
                  · exact absurd (by decide) c_145
                · exact absurd (by decide) c_144
              · exact absurd (by decide) c_143
            · exact absurd c_142 (by decide)
          · exact absurd c_141 (by decide)
        · exact absurd c_140 (by decide)
      · exact absurd (by decide) c_139
    · refine lv_istore_n (lv' := [(3, .int 3), (0, .ref (ad 1)), (1, .int 1), (2, .int k)]) hx hb dX12_does_10 rfl hl (by decide) rfl (fun ls hl => ?_)
      refine lv_iload_n hx hb dX12_does_11 rfl (lv_at hl 0 rfl) ?_
      refine lv_sipush (v := 1000) hx hb dX12_does_12 (by decide) ?_
      refine lv_icmp_lt (tgt := 54) hx hb dX12_does_15 (by decide) (fun c_174 => ?_) (fun c_174 => ?_)
      · refine lv_iload_n hx hb dX12_does_54 rfl (lv_at hl 0 rfl) ?_
        refine lv_sipush (v := 502) hx hb dX12_does_55 (by decide) ?_
        refine lv_icmp_ne (tgt := 74) hx hb dX12_does_58 (by decide) (fun c_175 => ?_) (fun c_175 => ?_)
        · refine lv_iload_n hx hb dX12_does_74 rfl (lv_at hl 0 rfl) ?_
          refine lv_sipush (v := 501) hx hb dX12_does_75 (by decide) ?_
          refine lv_icmp_ne (tgt := 122) hx hb dX12_does_78 (by decide) (fun c_176 => ?_) (fun c_176 => ?_)
          · refine lv_iload_n hx hb dX12_does_122 rfl (lv_at hl 0 rfl) ?_
            refine lv_sipush (v := 500) hx hb dX12_does_123 (by decide) ?_
            refine lv_icmp_ne (tgt := 197) hx hb dX12_does_126 (by decide) (fun c_177 => ?_) (fun c_177 => ?_)
            · refine lv_iload_n hx hb dX12_does_197 rfl (lv_at hl 0 rfl) ?_
              refine lv_sipush (v := 400) hx hb dX12_does_198 (by decide) ?_
              refine lv_icmp_lt (tgt := 251) hx hb dX12_does_201 (by decide) (fun c_178 => ?_) (fun c_178 => ?_)
              · refine lv_iload_n hx hb dX12_does_251 rfl (lv_at hl 0 rfl) ?_
                refine lv_sipush (v := 300) hx hb dX12_does_252 (by decide) ?_
                refine lv_icmp_lt (tgt := 290) hx hb dX12_does_255 (by decide) (fun c_179 => ?_) (fun c_179 => ?_)
                · refine lv_iload_n hx hb dX12_does_290 rfl (lv_at hl 0 rfl) ?_
                  refine lv_sipush (v := 200) hx hb dX12_does_291 (by decide) ?_
                  refine lv_icmp_lt (tgt := 348) hx hb dX12_does_294 (by decide) (fun c_180 => ?_) (fun c_180 => ?_)
                  · refine lv_iload_n hx hb dX12_does_348 rfl (lv_at hl 0 rfl) ?_
                    refine lv_bipush (v := 100) hx hb dX12_does_349 (by decide) ?_
                    refine lv_icmp_lt (tgt := 385) hx hb dX12_does_351 (by decide) (fun c_181 => ?_) (fun c_181 => ?_)
                    · refine lv_iload_n hx hb dX12_does_385 rfl (lv_at hl 0 rfl) ?_
                      refine lv_bipush (v := 16) hx hb dX12_does_386 (by decide) ?_
                      refine lv_icmp_ne (tgt := 418) hx hb dX12_does_388 (by decide) (fun c_182 => ?_) (fun c_182 => ?_)
                      · refine lv_iload_n hx hb dX12_does_418 rfl (lv_at hl 0 rfl) ?_
                        refine lv_bipush (v := 14) hx hb dX12_does_419 (by decide) ?_
                        refine lv_icmp_eq (tgt := 430) hx hb dX12_does_421 (by decide) (fun c_183 => ?_) (fun c_183 => ?_)
                        · exact absurd c_183 (by decide)
                        · refine lv_iload_n hx hb dX12_does_424 rfl (lv_at hl 0 rfl) ?_
                          refine lv_bipush (v := 15) hx hb dX12_does_425 (by decide) ?_
                          refine lv_icmp_ne (tgt := 505) hx hb dX12_does_427 (by decide) (fun c_184 => ?_) (fun c_184 => ?_)
                          · refine lv_aload_n hx hb dX12_does_505 rfl (lv_at hl 1 rfl) ?_
                            refine lv_iload_n hx hb dX12_does_506 rfl (lv_at hl 2 rfl) ?_
                            refine lv_iload_n hx hb dX12_does_507 rfl (lv_at hl 0 rfl) ?_
                            refine x_calliW (va_runV (As := [.int 1, .int 3]) (rest := []) ⟨hx, hb, hml, hown, hts⟩ (q_works1_3 l D y H.size ad zw σ T0 (show ((σ.1 73)).toInt = (T0.length : Int) + 2 from by first | omega | decide) (by first | omega | decide) hPT hop (show 0 ≤ ((σ.2.2.1 62) 1).toInt from by first | omega | decide) (show ((σ.2.2.1 62) 1).toInt < 1760 from by first | omega | decide) hB57 hB58 hB62 hB63) (cwV 2 hts g_q_does1_3 rfl rfl rfl (by decide +kernel) ⟨Nat.le_of_ble_eq_true rfl, Nat.le_of_ble_eq_true rfl⟩) (x_preV (q := (RX12, TX12, 85)) hK hP hD (ci := 11) (q0 := 0) rfl mwd_o0) rfl rfl hl.1 rfl (lv_room (Nat.le_of_ble_eq_true rfl)) dX12_does_508 ⟨Nat.le_of_ble_eq_true rfl, Nat.le_of_ble_eq_true rfl⟩) hP hD hS hA (fun r_185 u H locs hw hP hD hS => ?_)
                            obtain ⟨n_186, f_187, f_188, f_189, f_190, n_191, j_192, j_193, n_194, j_195, j_196, f_197, f_198, f_199, f_200, f_201, f_202⟩ := u
                            try dsimp only at hw
                            have hP : va_P D vwCl (mwd y ad zw (tI (tI (tI (tI (tJ (tJ (sJ (sJ (sI (sJ (sJ (sI (tI (tI (tI (tI (sI σ 73 n_186) 72 f_187) 63 f_188) 67 f_189) 66 f_190) 44 n_191) 42 j_192) 43 j_193) 68 n_194) 69 j_195) 70 j_196) 57 f_197) 58 f_198) 59 f_199) 60 f_200) 61 f_201) 62 f_202)) H := hP
                            have hD : va_D A (mwd y ad zw (tI (tI (tI (tI (tJ (tJ (sJ (sJ (sI (sJ (sJ (sI (tI (tI (tI (tI (sI σ 73 n_186) 72 f_187) 63 f_188) 67 f_189) 66 f_190) 44 n_191) 42 j_192) 43 j_193) 68 n_194) 69 j_195) 70 j_196) 57 f_197) 58 f_198) 59 f_199) 60 f_200) 61 f_201) 62 f_202)) := hD
                            have hw : (((f_189 1).toInt ≠ 0 ∨ (n_186.toInt = (T0.length : Int) + 1 ∧ PT (true :: T0) f_187 (f_202 1).toInt ∧ (f_188 1).toInt = ((σ.2.2.1 63) 1).toInt + 1 ∧ f_189 = (σ.2.2.1 67))) ∧ opc f_199 f_200 f_201 ∧ ((σ.2.2.1 62) 1).toInt ≤ (f_202 1).toInt ∧ (f_202 1).toInt - ((σ.2.2.1 62) 1).toInt ≤ (f_188 1).toInt - ((σ.2.2.1 63) 1).toInt ∧ f_202 0 = (σ.2.2.1 62) 0) ∧ bJ f_197 (-1000000000) 1000000000 ∧ bJ f_198 0 1000000000 ∧ bI f_202 0 1760 ∧ bI f_188 0 1000 := hw
                            obtain ⟨hw, hg_203, hg_204, hg_205, hg_206⟩ := hw
                            obtain ⟨hw, ho9, hl9, hl8, hl7⟩ := hw
                            rcases hw with hst9 | ⟨hp9, hPT9, hs9, hst9⟩
                            · skip
                              refine lv_pop hx hb dX12_does_511 rfl ?_
                              refine lv_iload_n hx hb dX12_does_512 rfl (lv_at hl 3 rfl) ?_
                              refine lv_iconst (v := 1) hx hb dX12_does_513 (by decide) ?_
                              refine lv_iadd hx hb dX12_does_514 ?_
                              refine lv_topi (fun i_207 ei_207 => ?_)
                              have vi_207 : i_207.toInt = k.toInt + 1 := by have h9 := x_add ei_207 (by omega) (by omega); omega
                              have hP : va_P D vwCl (mwd y ad zw (tI (tI (tI (tI (tI (tI (tI (tJ (tJ (sJ (sJ (sI (sJ (sJ (sI (tI (tI (tI (tI (sI σ 73 n_186) 72 f_187) 63 f_188) 67 f_189) 66 f_190) 44 n_191) 42 j_192) 43 j_193) 68 n_194) 69 j_195) 70 j_196) 57 f_197) 58 f_198) 59 f_199) 60 f_200) 61 f_201) 62 f_202) 71 (σ.2.2.1 71)) 64 (σ.2.2.1 64)) 65 (σ.2.2.1 65))) H := hP
                              have hD : va_D A (mwd y ad zw (tI (tI (tI (tI (tI (tI (tI (tJ (tJ (sJ (sJ (sI (sJ (sJ (sI (tI (tI (tI (tI (sI σ 73 n_186) 72 f_187) 63 f_188) 67 f_189) 66 f_190) 44 n_191) 42 j_192) 43 j_193) 68 n_194) 69 j_195) 70 j_196) 57 f_197) 58 f_198) 59 f_199) 60 f_200) 61 f_201) 62 f_202) 71 (σ.2.2.1 71)) 64 (σ.2.2.1 64)) 65 (σ.2.2.1 65))) := hD
                              exact x_iretW (v := i_207) (u := (n_186, f_187, f_188, f_189, f_190, n_191, j_192, j_193, n_194, j_195, j_196, f_197, f_198, f_199, f_200, f_201, f_202, (σ.2.2.1 71), (σ.2.2.1 64), (σ.2.2.1 65))) hx hb hr hQ (by (try dsimp only); exact ⟨⟨Or.inl hst9, ho9, by omega, by omega, hl7⟩, hg_203, hg_204, hg_205, hg_206, hB64, hB65⟩) hP hD hK hS dX12_does_515 hlocks
                            · skip
                              refine lv_pop hx hb dX12_does_511 rfl ?_
                              refine lv_iload_n hx hb dX12_does_512 rfl (lv_at hl 3 rfl) ?_
                              refine lv_iconst (v := 1) hx hb dX12_does_513 (by decide) ?_
                              refine lv_iadd hx hb dX12_does_514 ?_
                              refine lv_topi (fun i_208 ei_208 => ?_)
                              have vi_208 : i_208.toInt = k.toInt + 1 := by have h9 := x_add ei_208 (by omega) (by omega); omega
                              have hP : va_P D vwCl (mwd y ad zw (tI (tI (tI (tI (tI (tI (tI (tJ (tJ (sJ (sJ (sI (sJ (sJ (sI (tI (tI (tI (tI (sI σ 73 n_186) 72 f_187) 63 f_188) 67 f_189) 66 f_190) 44 n_191) 42 j_192) 43 j_193) 68 n_194) 69 j_195) 70 j_196) 57 f_197) 58 f_198) 59 f_199) 60 f_200) 61 f_201) 62 f_202) 71 (σ.2.2.1 71)) 64 (σ.2.2.1 64)) 65 (σ.2.2.1 65))) H := hP
                              have hD : va_D A (mwd y ad zw (tI (tI (tI (tI (tI (tI (tI (tJ (tJ (sJ (sJ (sI (sJ (sJ (sI (tI (tI (tI (tI (sI σ 73 n_186) 72 f_187) 63 f_188) 67 f_189) 66 f_190) 44 n_191) 42 j_192) 43 j_193) 68 n_194) 69 j_195) 70 j_196) 57 f_197) 58 f_198) 59 f_199) 60 f_200) 61 f_201) 62 f_202) 71 (σ.2.2.1 71)) 64 (σ.2.2.1 64)) 65 (σ.2.2.1 65))) := hD
                              exact x_iretW (v := i_208) (u := (n_186, f_187, f_188, f_189, f_190, n_191, j_192, j_193, n_194, j_195, j_196, f_197, f_198, f_199, f_200, f_201, f_202, (σ.2.2.1 71), (σ.2.2.1 64), (σ.2.2.1 65))) hx hb hr hQ (by (try dsimp only); exact ⟨⟨Or.inr ⟨(i + 1), (true :: T0), b1, (by push_cast; omega), hn, (by (try simp only [List.length_cons]); omega), hPT9, (bI_mono hh (by omega)), (MU_step (by omega) rfl (by omega)), hst9⟩, ho9, by omega, by omega, hl7⟩, hg_203, hg_204, hg_205, hg_206, hB64, hB65⟩) hP hD hK hS dX12_does_515 hlocks
                          · exact absurd c_184 (by decide)
                      · exact absurd c_182 (by decide)
                    · exact absurd (by decide) c_181
                  · exact absurd (by decide) c_180
                · exact absurd (by decide) c_179
              · exact absurd (by decide) c_178
            · exact absurd c_177 (by decide)
          · exact absurd c_176 (by decide)
        · exact absurd c_175 (by decide)
      · exact absurd (by decide) c_174
    · refine lv_istore_n (lv' := [(3, .int 4), (0, .ref (ad 1)), (1, .int 1), (2, .int k)]) hx hb dX12_does_10 rfl hl (by decide) rfl (fun ls hl => ?_)
      refine lv_iload_n hx hb dX12_does_11 rfl (lv_at hl 0 rfl) ?_
      refine lv_sipush (v := 1000) hx hb dX12_does_12 (by decide) ?_
      refine lv_icmp_lt (tgt := 54) hx hb dX12_does_15 (by decide) (fun c_209 => ?_) (fun c_209 => ?_)
      · refine lv_iload_n hx hb dX12_does_54 rfl (lv_at hl 0 rfl) ?_
        refine lv_sipush (v := 502) hx hb dX12_does_55 (by decide) ?_
        refine lv_icmp_ne (tgt := 74) hx hb dX12_does_58 (by decide) (fun c_210 => ?_) (fun c_210 => ?_)
        · refine lv_iload_n hx hb dX12_does_74 rfl (lv_at hl 0 rfl) ?_
          refine lv_sipush (v := 501) hx hb dX12_does_75 (by decide) ?_
          refine lv_icmp_ne (tgt := 122) hx hb dX12_does_78 (by decide) (fun c_211 => ?_) (fun c_211 => ?_)
          · refine lv_iload_n hx hb dX12_does_122 rfl (lv_at hl 0 rfl) ?_
            refine lv_sipush (v := 500) hx hb dX12_does_123 (by decide) ?_
            refine lv_icmp_ne (tgt := 197) hx hb dX12_does_126 (by decide) (fun c_212 => ?_) (fun c_212 => ?_)
            · refine lv_iload_n hx hb dX12_does_197 rfl (lv_at hl 0 rfl) ?_
              refine lv_sipush (v := 400) hx hb dX12_does_198 (by decide) ?_
              refine lv_icmp_lt (tgt := 251) hx hb dX12_does_201 (by decide) (fun c_213 => ?_) (fun c_213 => ?_)
              · refine lv_iload_n hx hb dX12_does_251 rfl (lv_at hl 0 rfl) ?_
                refine lv_sipush (v := 300) hx hb dX12_does_252 (by decide) ?_
                refine lv_icmp_lt (tgt := 290) hx hb dX12_does_255 (by decide) (fun c_214 => ?_) (fun c_214 => ?_)
                · refine lv_iload_n hx hb dX12_does_290 rfl (lv_at hl 0 rfl) ?_
                  refine lv_sipush (v := 200) hx hb dX12_does_291 (by decide) ?_
                  refine lv_icmp_lt (tgt := 348) hx hb dX12_does_294 (by decide) (fun c_215 => ?_) (fun c_215 => ?_)
                  · refine lv_iload_n hx hb dX12_does_348 rfl (lv_at hl 0 rfl) ?_
                    refine lv_bipush (v := 100) hx hb dX12_does_349 (by decide) ?_
                    refine lv_icmp_lt (tgt := 385) hx hb dX12_does_351 (by decide) (fun c_216 => ?_) (fun c_216 => ?_)
                    · refine lv_iload_n hx hb dX12_does_385 rfl (lv_at hl 0 rfl) ?_
                      refine lv_bipush (v := 16) hx hb dX12_does_386 (by decide) ?_
                      refine lv_icmp_ne (tgt := 418) hx hb dX12_does_388 (by decide) (fun c_217 => ?_) (fun c_217 => ?_)
                      · refine lv_iload_n hx hb dX12_does_418 rfl (lv_at hl 0 rfl) ?_
                        refine lv_bipush (v := 14) hx hb dX12_does_419 (by decide) ?_
                        refine lv_icmp_eq (tgt := 430) hx hb dX12_does_421 (by decide) (fun c_218 => ?_) (fun c_218 => ?_)
                        · exact absurd c_218 (by decide)
                        · refine lv_iload_n hx hb dX12_does_424 rfl (lv_at hl 0 rfl) ?_
                          refine lv_bipush (v := 15) hx hb dX12_does_425 (by decide) ?_
                          refine lv_icmp_ne (tgt := 505) hx hb dX12_does_427 (by decide) (fun c_219 => ?_) (fun c_219 => ?_)
                          · refine lv_aload_n hx hb dX12_does_505 rfl (lv_at hl 1 rfl) ?_
                            refine lv_iload_n hx hb dX12_does_506 rfl (lv_at hl 2 rfl) ?_
                            refine lv_iload_n hx hb dX12_does_507 rfl (lv_at hl 0 rfl) ?_
                            refine x_calliW (va_runV (As := [.int 1, .int 4]) (rest := []) ⟨hx, hb, hml, hown, hts⟩ (q_works1_4 l D y H.size ad zw σ T0 (show ((σ.1 73)).toInt = (T0.length : Int) + 2 from by first | omega | decide) (by first | omega | decide) hPT hop (show 0 ≤ ((σ.2.2.1 62) 1).toInt from by first | omega | decide) (show ((σ.2.2.1 62) 1).toInt < 1760 from by first | omega | decide) hB57 hB58 hB62 hB63) (cwV 2 hts g_q_does1_4 rfl rfl rfl (by decide +kernel) ⟨Nat.le_of_ble_eq_true rfl, Nat.le_of_ble_eq_true rfl⟩) (x_preV (q := (RX12, TX12, 85)) hK hP hD (ci := 11) (q0 := 0) rfl mwd_o0) rfl rfl hl.1 rfl (lv_room (Nat.le_of_ble_eq_true rfl)) dX12_does_508 ⟨Nat.le_of_ble_eq_true rfl, Nat.le_of_ble_eq_true rfl⟩) hP hD hS hA (fun r_220 u H locs hw hP hD hS => ?_)
                            obtain ⟨n_221, f_222, f_223, f_224, f_225, n_226, j_227, j_228, n_229, j_230, j_231, f_232, f_233, f_234, f_235, f_236, f_237⟩ := u
                            try dsimp only at hw
                            have hP : va_P D vwCl (mwd y ad zw (tI (tI (tI (tI (tJ (tJ (sJ (sJ (sI (sJ (sJ (sI (tI (tI (tI (tI (sI σ 73 n_221) 72 f_222) 63 f_223) 67 f_224) 66 f_225) 44 n_226) 42 j_227) 43 j_228) 68 n_229) 69 j_230) 70 j_231) 57 f_232) 58 f_233) 59 f_234) 60 f_235) 61 f_236) 62 f_237)) H := hP
                            have hD : va_D A (mwd y ad zw (tI (tI (tI (tI (tJ (tJ (sJ (sJ (sI (sJ (sJ (sI (tI (tI (tI (tI (sI σ 73 n_221) 72 f_222) 63 f_223) 67 f_224) 66 f_225) 44 n_226) 42 j_227) 43 j_228) 68 n_229) 69 j_230) 70 j_231) 57 f_232) 58 f_233) 59 f_234) 60 f_235) 61 f_236) 62 f_237)) := hD
                            have hw : (((f_224 1).toInt ≠ 0 ∨ (n_221.toInt = (T0.length : Int) + 1 ∧ PT (true :: T0) f_222 (f_237 1).toInt ∧ (f_223 1).toInt = ((σ.2.2.1 63) 1).toInt + 1 ∧ f_224 = (σ.2.2.1 67))) ∧ opc f_234 f_235 f_236 ∧ ((σ.2.2.1 62) 1).toInt ≤ (f_237 1).toInt ∧ (f_237 1).toInt - ((σ.2.2.1 62) 1).toInt ≤ (f_223 1).toInt - ((σ.2.2.1 63) 1).toInt ∧ f_237 0 = (σ.2.2.1 62) 0) ∧ bJ f_232 (-1000000000) 1000000000 ∧ bJ f_233 0 1000000000 ∧ bI f_237 0 1760 ∧ bI f_223 0 1000 := hw
                            obtain ⟨hw, hg_238, hg_239, hg_240, hg_241⟩ := hw
                            obtain ⟨hw, ho9, hl9, hl8, hl7⟩ := hw
                            rcases hw with hst9 | ⟨hp9, hPT9, hs9, hst9⟩
                            · skip
                              refine lv_pop hx hb dX12_does_511 rfl ?_
                              refine lv_iload_n hx hb dX12_does_512 rfl (lv_at hl 3 rfl) ?_
                              refine lv_iconst (v := 1) hx hb dX12_does_513 (by decide) ?_
                              refine lv_iadd hx hb dX12_does_514 ?_
                              refine lv_topi (fun i_242 ei_242 => ?_)
                              have vi_242 : i_242.toInt = k.toInt + 1 := by have h9 := x_add ei_242 (by omega) (by omega); omega
                              have hP : va_P D vwCl (mwd y ad zw (tI (tI (tI (tI (tI (tI (tI (tJ (tJ (sJ (sJ (sI (sJ (sJ (sI (tI (tI (tI (tI (sI σ 73 n_221) 72 f_222) 63 f_223) 67 f_224) 66 f_225) 44 n_226) 42 j_227) 43 j_228) 68 n_229) 69 j_230) 70 j_231) 57 f_232) 58 f_233) 59 f_234) 60 f_235) 61 f_236) 62 f_237) 71 (σ.2.2.1 71)) 64 (σ.2.2.1 64)) 65 (σ.2.2.1 65))) H := hP
                              have hD : va_D A (mwd y ad zw (tI (tI (tI (tI (tI (tI (tI (tJ (tJ (sJ (sJ (sI (sJ (sJ (sI (tI (tI (tI (tI (sI σ 73 n_221) 72 f_222) 63 f_223) 67 f_224) 66 f_225) 44 n_226) 42 j_227) 43 j_228) 68 n_229) 69 j_230) 70 j_231) 57 f_232) 58 f_233) 59 f_234) 60 f_235) 61 f_236) 62 f_237) 71 (σ.2.2.1 71)) 64 (σ.2.2.1 64)) 65 (σ.2.2.1 65))) := hD
                              exact x_iretW (v := i_242) (u := (n_221, f_222, f_223, f_224, f_225, n_226, j_227, j_228, n_229, j_230, j_231, f_232, f_233, f_234, f_235, f_236, f_237, (σ.2.2.1 71), (σ.2.2.1 64), (σ.2.2.1 65))) hx hb hr hQ (by (try dsimp only); exact ⟨⟨Or.inl hst9, ho9, by omega, by omega, hl7⟩, hg_238, hg_239, hg_240, hg_241, hB64, hB65⟩) hP hD hK hS dX12_does_515 hlocks
                            · skip
                              refine lv_pop hx hb dX12_does_511 rfl ?_
                              refine lv_iload_n hx hb dX12_does_512 rfl (lv_at hl 3 rfl) ?_
                              refine lv_iconst (v := 1) hx hb dX12_does_513 (by decide) ?_
                              refine lv_iadd hx hb dX12_does_514 ?_
                              refine lv_topi (fun i_243 ei_243 => ?_)
                              have vi_243 : i_243.toInt = k.toInt + 1 := by have h9 := x_add ei_243 (by omega) (by omega); omega
                              have hP : va_P D vwCl (mwd y ad zw (tI (tI (tI (tI (tI (tI (tI (tJ (tJ (sJ (sJ (sI (sJ (sJ (sI (tI (tI (tI (tI (sI σ 73 n_221) 72 f_222) 63 f_223) 67 f_224) 66 f_225) 44 n_226) 42 j_227) 43 j_228) 68 n_229) 69 j_230) 70 j_231) 57 f_232) 58 f_233) 59 f_234) 60 f_235) 61 f_236) 62 f_237) 71 (σ.2.2.1 71)) 64 (σ.2.2.1 64)) 65 (σ.2.2.1 65))) H := hP
                              have hD : va_D A (mwd y ad zw (tI (tI (tI (tI (tI (tI (tI (tJ (tJ (sJ (sJ (sI (sJ (sJ (sI (tI (tI (tI (tI (sI σ 73 n_221) 72 f_222) 63 f_223) 67 f_224) 66 f_225) 44 n_226) 42 j_227) 43 j_228) 68 n_229) 69 j_230) 70 j_231) 57 f_232) 58 f_233) 59 f_234) 60 f_235) 61 f_236) 62 f_237) 71 (σ.2.2.1 71)) 64 (σ.2.2.1 64)) 65 (σ.2.2.1 65))) := hD
                              exact x_iretW (v := i_243) (u := (n_221, f_222, f_223, f_224, f_225, n_226, j_227, j_228, n_229, j_230, j_231, f_232, f_233, f_234, f_235, f_236, f_237, (σ.2.2.1 71), (σ.2.2.1 64), (σ.2.2.1 65))) hx hb hr hQ (by (try dsimp only); exact ⟨⟨Or.inr ⟨(i + 1), (true :: T0), b1, (by push_cast; omega), hn, (by (try simp only [List.length_cons]); omega), hPT9, (bI_mono hh (by omega)), (MU_step (by omega) rfl (by omega)), hst9⟩, ho9, by omega, by omega, hl7⟩, hg_238, hg_239, hg_240, hg_241, hB64, hB65⟩) hP hD hK hS dX12_does_515 hlocks
                          · exact absurd c_219 (by decide)
                      · exact absurd c_217 (by decide)
                    · exact absurd (by decide) c_216
                  · exact absurd (by decide) c_215
                · exact absurd (by decide) c_214
              · exact absurd (by decide) c_213
            · exact absurd c_212 (by decide)
          · exact absurd c_211 (by decide)
        · exact absurd c_210 (by decide)
      · exact absurd (by decide) c_209
    · refine lv_istore_n (lv' := [(3, .int 5), (0, .ref (ad 1)), (1, .int 1), (2, .int k)]) hx hb dX12_does_10 rfl hl (by decide) rfl (fun ls hl => ?_)
      refine lv_iload_n hx hb dX12_does_11 rfl (lv_at hl 0 rfl) ?_
      refine lv_sipush (v := 1000) hx hb dX12_does_12 (by decide) ?_
      refine lv_icmp_lt (tgt := 54) hx hb dX12_does_15 (by decide) (fun c_244 => ?_) (fun c_244 => ?_)
      · refine lv_iload_n hx hb dX12_does_54 rfl (lv_at hl 0 rfl) ?_
        refine lv_sipush (v := 502) hx hb dX12_does_55 (by decide) ?_
        refine lv_icmp_ne (tgt := 74) hx hb dX12_does_58 (by decide) (fun c_245 => ?_) (fun c_245 => ?_)
        · refine lv_iload_n hx hb dX12_does_74 rfl (lv_at hl 0 rfl) ?_
          refine lv_sipush (v := 501) hx hb dX12_does_75 (by decide) ?_
          refine lv_icmp_ne (tgt := 122) hx hb dX12_does_78 (by decide) (fun c_246 => ?_) (fun c_246 => ?_)
          · refine lv_iload_n hx hb dX12_does_122 rfl (lv_at hl 0 rfl) ?_
            refine lv_sipush (v := 500) hx hb dX12_does_123 (by decide) ?_
            refine lv_icmp_ne (tgt := 197) hx hb dX12_does_126 (by decide) (fun c_247 => ?_) (fun c_247 => ?_)
            · refine lv_iload_n hx hb dX12_does_197 rfl (lv_at hl 0 rfl) ?_
              refine lv_sipush (v := 400) hx hb dX12_does_198 (by decide) ?_
              refine lv_icmp_lt (tgt := 251) hx hb dX12_does_201 (by decide) (fun c_248 => ?_) (fun c_248 => ?_)
              · refine lv_iload_n hx hb dX12_does_251 rfl (lv_at hl 0 rfl) ?_
                refine lv_sipush (v := 300) hx hb dX12_does_252 (by decide) ?_
                refine lv_icmp_lt (tgt := 290) hx hb dX12_does_255 (by decide) (fun c_249 => ?_) (fun c_249 => ?_)
                · refine lv_iload_n hx hb dX12_does_290 rfl (lv_at hl 0 rfl) ?_
                  refine lv_sipush (v := 200) hx hb dX12_does_291 (by decide) ?_
                  refine lv_icmp_lt (tgt := 348) hx hb dX12_does_294 (by decide) (fun c_250 => ?_) (fun c_250 => ?_)
                  · refine lv_iload_n hx hb dX12_does_348 rfl (lv_at hl 0 rfl) ?_
                    refine lv_bipush (v := 100) hx hb dX12_does_349 (by decide) ?_
                    refine lv_icmp_lt (tgt := 385) hx hb dX12_does_351 (by decide) (fun c_251 => ?_) (fun c_251 => ?_)
                    · refine lv_iload_n hx hb dX12_does_385 rfl (lv_at hl 0 rfl) ?_
                      refine lv_bipush (v := 16) hx hb dX12_does_386 (by decide) ?_
                      refine lv_icmp_ne (tgt := 418) hx hb dX12_does_388 (by decide) (fun c_252 => ?_) (fun c_252 => ?_)
                      · refine lv_iload_n hx hb dX12_does_418 rfl (lv_at hl 0 rfl) ?_
                        refine lv_bipush (v := 14) hx hb dX12_does_419 (by decide) ?_
                        refine lv_icmp_eq (tgt := 430) hx hb dX12_does_421 (by decide) (fun c_253 => ?_) (fun c_253 => ?_)
                        · exact absurd c_253 (by decide)
                        · refine lv_iload_n hx hb dX12_does_424 rfl (lv_at hl 0 rfl) ?_
                          refine lv_bipush (v := 15) hx hb dX12_does_425 (by decide) ?_
                          refine lv_icmp_ne (tgt := 505) hx hb dX12_does_427 (by decide) (fun c_254 => ?_) (fun c_254 => ?_)
                          · refine lv_aload_n hx hb dX12_does_505 rfl (lv_at hl 1 rfl) ?_
                            refine lv_iload_n hx hb dX12_does_506 rfl (lv_at hl 2 rfl) ?_
                            refine lv_iload_n hx hb dX12_does_507 rfl (lv_at hl 0 rfl) ?_
                            refine x_calliW (va_runV (As := [.int 1, .int 5]) (rest := []) ⟨hx, hb, hml, hown, hts⟩ (q_works1_5 l D y H.size ad zw σ T0 (show ((σ.1 73)).toInt = (T0.length : Int) + 2 from by first | omega | decide) (by first | omega | decide) hPT hop (show 0 ≤ ((σ.2.2.1 62) 1).toInt from by first | omega | decide) (show ((σ.2.2.1 62) 1).toInt < 1760 from by first | omega | decide) hB57 hB58 hB62 hB63) (cwV 2 hts g_q_does1_5 rfl rfl rfl (by decide +kernel) ⟨Nat.le_of_ble_eq_true rfl, Nat.le_of_ble_eq_true rfl⟩) (x_preV (q := (RX12, TX12, 85)) hK hP hD (ci := 11) (q0 := 0) rfl mwd_o0) rfl rfl hl.1 rfl (lv_room (Nat.le_of_ble_eq_true rfl)) dX12_does_508 ⟨Nat.le_of_ble_eq_true rfl, Nat.le_of_ble_eq_true rfl⟩) hP hD hS hA (fun r_255 u H locs hw hP hD hS => ?_)
                            obtain ⟨n_256, f_257, f_258, f_259, f_260, n_261, j_262, j_263, n_264, j_265, j_266, f_267, f_268, f_269, f_270, f_271, f_272⟩ := u
                            try dsimp only at hw
                            have hP : va_P D vwCl (mwd y ad zw (tI (tI (tI (tI (tJ (tJ (sJ (sJ (sI (sJ (sJ (sI (tI (tI (tI (tI (sI σ 73 n_256) 72 f_257) 63 f_258) 67 f_259) 66 f_260) 44 n_261) 42 j_262) 43 j_263) 68 n_264) 69 j_265) 70 j_266) 57 f_267) 58 f_268) 59 f_269) 60 f_270) 61 f_271) 62 f_272)) H := hP
                            have hD : va_D A (mwd y ad zw (tI (tI (tI (tI (tJ (tJ (sJ (sJ (sI (sJ (sJ (sI (tI (tI (tI (tI (sI σ 73 n_256) 72 f_257) 63 f_258) 67 f_259) 66 f_260) 44 n_261) 42 j_262) 43 j_263) 68 n_264) 69 j_265) 70 j_266) 57 f_267) 58 f_268) 59 f_269) 60 f_270) 61 f_271) 62 f_272)) := hD
                            have hw : (((f_259 1).toInt ≠ 0 ∨ (n_256.toInt = (T0.length : Int) + 1 ∧ PT (true :: T0) f_257 (f_272 1).toInt ∧ (f_258 1).toInt = ((σ.2.2.1 63) 1).toInt + 1 ∧ f_259 = (σ.2.2.1 67))) ∧ opc f_269 f_270 f_271 ∧ ((σ.2.2.1 62) 1).toInt ≤ (f_272 1).toInt ∧ (f_272 1).toInt - ((σ.2.2.1 62) 1).toInt ≤ (f_258 1).toInt - ((σ.2.2.1 63) 1).toInt ∧ f_272 0 = (σ.2.2.1 62) 0) ∧ bJ f_267 (-1000000000) 1000000000 ∧ bJ f_268 0 1000000000 ∧ bI f_272 0 1760 ∧ bI f_258 0 1000 := hw
                            obtain ⟨hw, hg_273, hg_274, hg_275, hg_276⟩ := hw
                            obtain ⟨hw, ho9, hl9, hl8, hl7⟩ := hw
                            rcases hw with hst9 | ⟨hp9, hPT9, hs9, hst9⟩
                            · skip
                              refine lv_pop hx hb dX12_does_511 rfl ?_
                              refine lv_iload_n hx hb dX12_does_512 rfl (lv_at hl 3 rfl) ?_
                              refine lv_iconst (v := 1) hx hb dX12_does_513 (by decide) ?_
                              refine lv_iadd hx hb dX12_does_514 ?_
                              refine lv_topi (fun i_277 ei_277 => ?_)
                              have vi_277 : i_277.toInt = k.toInt + 1 := by have h9 := x_add ei_277 (by omega) (by omega); omega
                              have hP : va_P D vwCl (mwd y ad zw (tI (tI (tI (tI (tI (tI (tI (tJ (tJ (sJ (sJ (sI (sJ (sJ (sI (tI (tI (tI (tI (sI σ 73 n_256) 72 f_257) 63 f_258) 67 f_259) 66 f_260) 44 n_261) 42 j_262) 43 j_263) 68 n_264) 69 j_265) 70 j_266) 57 f_267) 58 f_268) 59 f_269) 60 f_270) 61 f_271) 62 f_272) 71 (σ.2.2.1 71)) 64 (σ.2.2.1 64)) 65 (σ.2.2.1 65))) H := hP
                              have hD : va_D A (mwd y ad zw (tI (tI (tI (tI (tI (tI (tI (tJ (tJ (sJ (sJ (sI (sJ (sJ (sI (tI (tI (tI (tI (sI σ 73 n_256) 72 f_257) 63 f_258) 67 f_259) 66 f_260) 44 n_261) 42 j_262) 43 j_263) 68 n_264) 69 j_265) 70 j_266) 57 f_267) 58 f_268) 59 f_269) 60 f_270) 61 f_271) 62 f_272) 71 (σ.2.2.1 71)) 64 (σ.2.2.1 64)) 65 (σ.2.2.1 65))) := hD
                              exact x_iretW (v := i_277) (u := (n_256, f_257, f_258, f_259, f_260, n_261, j_262, j_263, n_264, j_265, j_266, f_267, f_268, f_269, f_270, f_271, f_272, (σ.2.2.1 71), (σ.2.2.1 64), (σ.2.2.1 65))) hx hb hr hQ (by (try dsimp only); exact ⟨⟨Or.inl hst9, ho9, by omega, by omega, hl7⟩, hg_273, hg_274, hg_275, hg_276, hB64, hB65⟩) hP hD hK hS dX12_does_515 hlocks
                            · skip
                              refine lv_pop hx hb dX12_does_511 rfl ?_
                              refine lv_iload_n hx hb dX12_does_512 rfl (lv_at hl 3 rfl) ?_
                              refine lv_iconst (v := 1) hx hb dX12_does_513 (by decide) ?_
                              refine lv_iadd hx hb dX12_does_514 ?_
                              refine lv_topi (fun i_278 ei_278 => ?_)
                              have vi_278 : i_278.toInt = k.toInt + 1 := by have h9 := x_add ei_278 (by omega) (by omega); omega
                              have hP : va_P D vwCl (mwd y ad zw (tI (tI (tI (tI (tI (tI (tI (tJ (tJ (sJ (sJ (sI (sJ (sJ (sI (tI (tI (tI (tI (sI σ 73 n_256) 72 f_257) 63 f_258) 67 f_259) 66 f_260) 44 n_261) 42 j_262) 43 j_263) 68 n_264) 69 j_265) 70 j_266) 57 f_267) 58 f_268) 59 f_269) 60 f_270) 61 f_271) 62 f_272) 71 (σ.2.2.1 71)) 64 (σ.2.2.1 64)) 65 (σ.2.2.1 65))) H := hP
                              have hD : va_D A (mwd y ad zw (tI (tI (tI (tI (tI (tI (tI (tJ (tJ (sJ (sJ (sI (sJ (sJ (sI (tI (tI (tI (tI (sI σ 73 n_256) 72 f_257) 63 f_258) 67 f_259) 66 f_260) 44 n_261) 42 j_262) 43 j_263) 68 n_264) 69 j_265) 70 j_266) 57 f_267) 58 f_268) 59 f_269) 60 f_270) 61 f_271) 62 f_272) 71 (σ.2.2.1 71)) 64 (σ.2.2.1 64)) 65 (σ.2.2.1 65))) := hD
                              exact x_iretW (v := i_278) (u := (n_256, f_257, f_258, f_259, f_260, n_261, j_262, j_263, n_264, j_265, j_266, f_267, f_268, f_269, f_270, f_271, f_272, (σ.2.2.1 71), (σ.2.2.1 64), (σ.2.2.1 65))) hx hb hr hQ (by (try dsimp only); exact ⟨⟨Or.inr ⟨(i + 1), (true :: T0), b1, (by push_cast; omega), hn, (by (try simp only [List.length_cons]); omega), hPT9, (bI_mono hh (by omega)), (MU_step (by omega) rfl (by omega)), hst9⟩, ho9, by omega, by omega, hl7⟩, hg_273, hg_274, hg_275, hg_276, hB64, hB65⟩) hP hD hK hS dX12_does_515 hlocks
                          · exact absurd c_254 (by decide)
                      · exact absurd c_252 (by decide)
                    · exact absurd (by decide) c_251
                  · exact absurd (by decide) c_250
                · exact absurd (by decide) c_249
              · exact absurd (by decide) c_248
            · exact absurd c_247 (by decide)
          · exact absurd c_246 (by decide)
        · exact absurd c_245 (by decide)
      · exact absurd (by decide) c_244
    · refine lv_istore_n (lv' := [(3, .int 6), (0, .ref (ad 1)), (1, .int 1), (2, .int k)]) hx hb dX12_does_10 rfl hl (by decide) rfl (fun ls hl => ?_)
      refine lv_iload_n hx hb dX12_does_11 rfl (lv_at hl 0 rfl) ?_
      refine lv_sipush (v := 1000) hx hb dX12_does_12 (by decide) ?_
      refine lv_icmp_lt (tgt := 54) hx hb dX12_does_15 (by decide) (fun c_279 => ?_) (fun c_279 => ?_)
      · refine lv_iload_n hx hb dX12_does_54 rfl (lv_at hl 0 rfl) ?_
        refine lv_sipush (v := 502) hx hb dX12_does_55 (by decide) ?_
        refine lv_icmp_ne (tgt := 74) hx hb dX12_does_58 (by decide) (fun c_280 => ?_) (fun c_280 => ?_)
        · refine lv_iload_n hx hb dX12_does_74 rfl (lv_at hl 0 rfl) ?_
          refine lv_sipush (v := 501) hx hb dX12_does_75 (by decide) ?_
          refine lv_icmp_ne (tgt := 122) hx hb dX12_does_78 (by decide) (fun c_281 => ?_) (fun c_281 => ?_)
          · refine lv_iload_n hx hb dX12_does_122 rfl (lv_at hl 0 rfl) ?_
            refine lv_sipush (v := 500) hx hb dX12_does_123 (by decide) ?_
            refine lv_icmp_ne (tgt := 197) hx hb dX12_does_126 (by decide) (fun c_282 => ?_) (fun c_282 => ?_)
            · refine lv_iload_n hx hb dX12_does_197 rfl (lv_at hl 0 rfl) ?_
              refine lv_sipush (v := 400) hx hb dX12_does_198 (by decide) ?_
              refine lv_icmp_lt (tgt := 251) hx hb dX12_does_201 (by decide) (fun c_283 => ?_) (fun c_283 => ?_)
              · refine lv_iload_n hx hb dX12_does_251 rfl (lv_at hl 0 rfl) ?_
                refine lv_sipush (v := 300) hx hb dX12_does_252 (by decide) ?_
                refine lv_icmp_lt (tgt := 290) hx hb dX12_does_255 (by decide) (fun c_284 => ?_) (fun c_284 => ?_)
                · refine lv_iload_n hx hb dX12_does_290 rfl (lv_at hl 0 rfl) ?_
                  refine lv_sipush (v := 200) hx hb dX12_does_291 (by decide) ?_
                  refine lv_icmp_lt (tgt := 348) hx hb dX12_does_294 (by decide) (fun c_285 => ?_) (fun c_285 => ?_)
                  · refine lv_iload_n hx hb dX12_does_348 rfl (lv_at hl 0 rfl) ?_
                    refine lv_bipush (v := 100) hx hb dX12_does_349 (by decide) ?_
                    refine lv_icmp_lt (tgt := 385) hx hb dX12_does_351 (by decide) (fun c_286 => ?_) (fun c_286 => ?_)
                    · refine lv_iload_n hx hb dX12_does_385 rfl (lv_at hl 0 rfl) ?_
                      refine lv_bipush (v := 16) hx hb dX12_does_386 (by decide) ?_
                      refine lv_icmp_ne (tgt := 418) hx hb dX12_does_388 (by decide) (fun c_287 => ?_) (fun c_287 => ?_)
                      · refine lv_iload_n hx hb dX12_does_418 rfl (lv_at hl 0 rfl) ?_
                        refine lv_bipush (v := 14) hx hb dX12_does_419 (by decide) ?_
                        refine lv_icmp_eq (tgt := 430) hx hb dX12_does_421 (by decide) (fun c_288 => ?_) (fun c_288 => ?_)
                        · exact absurd c_288 (by decide)
                        · refine lv_iload_n hx hb dX12_does_424 rfl (lv_at hl 0 rfl) ?_
                          refine lv_bipush (v := 15) hx hb dX12_does_425 (by decide) ?_
                          refine lv_icmp_ne (tgt := 505) hx hb dX12_does_427 (by decide) (fun c_289 => ?_) (fun c_289 => ?_)
                          · refine lv_aload_n hx hb dX12_does_505 rfl (lv_at hl 1 rfl) ?_
                            refine lv_iload_n hx hb dX12_does_506 rfl (lv_at hl 2 rfl) ?_
                            refine lv_iload_n hx hb dX12_does_507 rfl (lv_at hl 0 rfl) ?_
                            refine x_calliW (va_runV (As := [.int 1, .int 6]) (rest := []) ⟨hx, hb, hml, hown, hts⟩ (q_works1_6 l D y H.size ad zw σ T0 (show ((σ.1 73)).toInt = (T0.length : Int) + 2 from by first | omega | decide) (by first | omega | decide) hPT hop (show 0 ≤ ((σ.2.2.1 62) 1).toInt from by first | omega | decide) (show ((σ.2.2.1 62) 1).toInt < 1760 from by first | omega | decide) hB57 hB58 hB62 hB63) (cwV 2 hts g_q_does1_6 rfl rfl rfl (by decide +kernel) ⟨Nat.le_of_ble_eq_true rfl, Nat.le_of_ble_eq_true rfl⟩) (x_preV (q := (RX12, TX12, 85)) hK hP hD (ci := 11) (q0 := 0) rfl mwd_o0) rfl rfl hl.1 rfl (lv_room (Nat.le_of_ble_eq_true rfl)) dX12_does_508 ⟨Nat.le_of_ble_eq_true rfl, Nat.le_of_ble_eq_true rfl⟩) hP hD hS hA (fun r_290 u H locs hw hP hD hS => ?_)
                            obtain ⟨n_291, f_292, f_293, f_294, f_295, n_296, j_297, j_298, n_299, j_300, j_301, f_302, f_303, f_304, f_305, f_306, f_307⟩ := u
                            try dsimp only at hw
                            have hP : va_P D vwCl (mwd y ad zw (tI (tI (tI (tI (tJ (tJ (sJ (sJ (sI (sJ (sJ (sI (tI (tI (tI (tI (sI σ 73 n_291) 72 f_292) 63 f_293) 67 f_294) 66 f_295) 44 n_296) 42 j_297) 43 j_298) 68 n_299) 69 j_300) 70 j_301) 57 f_302) 58 f_303) 59 f_304) 60 f_305) 61 f_306) 62 f_307)) H := hP
                            have hD : va_D A (mwd y ad zw (tI (tI (tI (tI (tJ (tJ (sJ (sJ (sI (sJ (sJ (sI (tI (tI (tI (tI (sI σ 73 n_291) 72 f_292) 63 f_293) 67 f_294) 66 f_295) 44 n_296) 42 j_297) 43 j_298) 68 n_299) 69 j_300) 70 j_301) 57 f_302) 58 f_303) 59 f_304) 60 f_305) 61 f_306) 62 f_307)) := hD
                            have hw : (((f_294 1).toInt ≠ 0 ∨ (n_291.toInt = (T0.length : Int) + 1 ∧ PT (true :: T0) f_292 (f_307 1).toInt ∧ (f_293 1).toInt = ((σ.2.2.1 63) 1).toInt + 1 ∧ f_294 = (σ.2.2.1 67))) ∧ opc f_304 f_305 f_306 ∧ ((σ.2.2.1 62) 1).toInt ≤ (f_307 1).toInt ∧ (f_307 1).toInt - ((σ.2.2.1 62) 1).toInt ≤ (f_293 1).toInt - ((σ.2.2.1 63) 1).toInt ∧ f_307 0 = (σ.2.2.1 62) 0) ∧ bJ f_302 (-1000000000) 1000000000 ∧ bJ f_303 0 1000000000 ∧ bI f_307 0 1760 ∧ bI f_293 0 1000 := hw
                            obtain ⟨hw, hg_308, hg_309, hg_310, hg_311⟩ := hw
                            obtain ⟨hw, ho9, hl9, hl8, hl7⟩ := hw
                            rcases hw with hst9 | ⟨hp9, hPT9, hs9, hst9⟩
                            · skip
                              refine lv_pop hx hb dX12_does_511 rfl ?_
                              refine lv_iload_n hx hb dX12_does_512 rfl (lv_at hl 3 rfl) ?_
                              refine lv_iconst (v := 1) hx hb dX12_does_513 (by decide) ?_
                              refine lv_iadd hx hb dX12_does_514 ?_
                              refine lv_topi (fun i_312 ei_312 => ?_)
                              have vi_312 : i_312.toInt = k.toInt + 1 := by have h9 := x_add ei_312 (by omega) (by omega); omega
                              have hP : va_P D vwCl (mwd y ad zw (tI (tI (tI (tI (tI (tI (tI (tJ (tJ (sJ (sJ (sI (sJ (sJ (sI (tI (tI (tI (tI (sI σ 73 n_291) 72 f_292) 63 f_293) 67 f_294) 66 f_295) 44 n_296) 42 j_297) 43 j_298) 68 n_299) 69 j_300) 70 j_301) 57 f_302) 58 f_303) 59 f_304) 60 f_305) 61 f_306) 62 f_307) 71 (σ.2.2.1 71)) 64 (σ.2.2.1 64)) 65 (σ.2.2.1 65))) H := hP
                              have hD : va_D A (mwd y ad zw (tI (tI (tI (tI (tI (tI (tI (tJ (tJ (sJ (sJ (sI (sJ (sJ (sI (tI (tI (tI (tI (sI σ 73 n_291) 72 f_292) 63 f_293) 67 f_294) 66 f_295) 44 n_296) 42 j_297) 43 j_298) 68 n_299) 69 j_300) 70 j_301) 57 f_302) 58 f_303) 59 f_304) 60 f_305) 61 f_306) 62 f_307) 71 (σ.2.2.1 71)) 64 (σ.2.2.1 64)) 65 (σ.2.2.1 65))) := hD
                              exact x_iretW (v := i_312) (u := (n_291, f_292, f_293, f_294, f_295, n_296, j_297, j_298, n_299, j_300, j_301, f_302, f_303, f_304, f_305, f_306, f_307, (σ.2.2.1 71), (σ.2.2.1 64), (σ.2.2.1 65))) hx hb hr hQ (by (try dsimp only); exact ⟨⟨Or.inl hst9, ho9, by omega, by omega, hl7⟩, hg_308, hg_309, hg_310, hg_311, hB64, hB65⟩) hP hD hK hS dX12_does_515 hlocks
                            · skip
                              refine lv_pop hx hb dX12_does_511 rfl ?_
                              refine lv_iload_n hx hb dX12_does_512 rfl (lv_at hl 3 rfl) ?_
                              refine lv_iconst (v := 1) hx hb dX12_does_513 (by decide) ?_
                              refine lv_iadd hx hb dX12_does_514 ?_
                              refine lv_topi (fun i_313 ei_313 => ?_)
                              have vi_313 : i_313.toInt = k.toInt + 1 := by have h9 := x_add ei_313 (by omega) (by omega); omega
                              have hP : va_P D vwCl (mwd y ad zw (tI (tI (tI (tI (tI (tI (tI (tJ (tJ (sJ (sJ (sI (sJ (sJ (sI (tI (tI (tI (tI (sI σ 73 n_291) 72 f_292) 63 f_293) 67 f_294) 66 f_295) 44 n_296) 42 j_297) 43 j_298) 68 n_299) 69 j_300) 70 j_301) 57 f_302) 58 f_303) 59 f_304) 60 f_305) 61 f_306) 62 f_307) 71 (σ.2.2.1 71)) 64 (σ.2.2.1 64)) 65 (σ.2.2.1 65))) H := hP
                              have hD : va_D A (mwd y ad zw (tI (tI (tI (tI (tI (tI (tI (tJ (tJ (sJ (sJ (sI (sJ (sJ (sI (tI (tI (tI (tI (sI σ 73 n_291) 72 f_292) 63 f_293) 67 f_294) 66 f_295) 44 n_296) 42 j_297) 43 j_298) 68 n_299) 69 j_300) 70 j_301) 57 f_302) 58 f_303) 59 f_304) 60 f_305) 61 f_306) 62 f_307) 71 (σ.2.2.1 71)) 64 (σ.2.2.1 64)) 65 (σ.2.2.1 65))) := hD
                              exact x_iretW (v := i_313) (u := (n_291, f_292, f_293, f_294, f_295, n_296, j_297, j_298, n_299, j_300, j_301, f_302, f_303, f_304, f_305, f_306, f_307, (σ.2.2.1 71), (σ.2.2.1 64), (σ.2.2.1 65))) hx hb hr hQ (by (try dsimp only); exact ⟨⟨Or.inr ⟨(i + 1), (true :: T0), b1, (by push_cast; omega), hn, (by (try simp only [List.length_cons]); omega), hPT9, (bI_mono hh (by omega)), (MU_step (by omega) rfl (by omega)), hst9⟩, ho9, by omega, by omega, hl7⟩, hg_308, hg_309, hg_310, hg_311, hB64, hB65⟩) hP hD hK hS dX12_does_515 hlocks
                          · exact absurd c_289 (by decide)
                      · exact absurd c_287 (by decide)
                    · exact absurd (by decide) c_286
                  · exact absurd (by decide) c_285
                · exact absurd (by decide) c_284
              · exact absurd (by decide) c_283
            · exact absurd c_282 (by decide)
          · exact absurd c_281 (by decide)
        · exact absurd c_280 (by decide)
      · exact absurd (by decide) c_279
  · simp only [List.length_cons] at hp hLn
    rcases (show i_2 = 7 by simp only [x_eq, Int32.reduceToInt]; omega) with rfl
    refine lv_istore_n (lv' := [(3, .int 7), (0, .ref (ad 1)), (1, .int 1), (2, .int k)]) hx hb dX12_does_10 rfl hl (by decide) rfl (fun ls hl => ?_)
    refine lv_iload_n hx hb dX12_does_11 rfl (lv_at hl 0 rfl) ?_
    refine lv_sipush (v := 1000) hx hb dX12_does_12 (by decide) ?_
    refine lv_icmp_lt (tgt := 54) hx hb dX12_does_15 (by decide) (fun c_314 => ?_) (fun c_314 => ?_)
    · refine lv_iload_n hx hb dX12_does_54 rfl (lv_at hl 0 rfl) ?_
      refine lv_sipush (v := 502) hx hb dX12_does_55 (by decide) ?_
      refine lv_icmp_ne (tgt := 74) hx hb dX12_does_58 (by decide) (fun c_315 => ?_) (fun c_315 => ?_)
      · refine lv_iload_n hx hb dX12_does_74 rfl (lv_at hl 0 rfl) ?_
        refine lv_sipush (v := 501) hx hb dX12_does_75 (by decide) ?_
        refine lv_icmp_ne (tgt := 122) hx hb dX12_does_78 (by decide) (fun c_316 => ?_) (fun c_316 => ?_)
        · refine lv_iload_n hx hb dX12_does_122 rfl (lv_at hl 0 rfl) ?_
          refine lv_sipush (v := 500) hx hb dX12_does_123 (by decide) ?_
          refine lv_icmp_ne (tgt := 197) hx hb dX12_does_126 (by decide) (fun c_317 => ?_) (fun c_317 => ?_)
          · refine lv_iload_n hx hb dX12_does_197 rfl (lv_at hl 0 rfl) ?_
            refine lv_sipush (v := 400) hx hb dX12_does_198 (by decide) ?_
            refine lv_icmp_lt (tgt := 251) hx hb dX12_does_201 (by decide) (fun c_318 => ?_) (fun c_318 => ?_)
            · refine lv_iload_n hx hb dX12_does_251 rfl (lv_at hl 0 rfl) ?_
              refine lv_sipush (v := 300) hx hb dX12_does_252 (by decide) ?_
              refine lv_icmp_lt (tgt := 290) hx hb dX12_does_255 (by decide) (fun c_319 => ?_) (fun c_319 => ?_)
              · refine lv_iload_n hx hb dX12_does_290 rfl (lv_at hl 0 rfl) ?_
                refine lv_sipush (v := 200) hx hb dX12_does_291 (by decide) ?_
                refine lv_icmp_lt (tgt := 348) hx hb dX12_does_294 (by decide) (fun c_320 => ?_) (fun c_320 => ?_)
                · refine lv_iload_n hx hb dX12_does_348 rfl (lv_at hl 0 rfl) ?_
                  refine lv_bipush (v := 100) hx hb dX12_does_349 (by decide) ?_
                  refine lv_icmp_lt (tgt := 385) hx hb dX12_does_351 (by decide) (fun c_321 => ?_) (fun c_321 => ?_)
                  · refine lv_iload_n hx hb dX12_does_385 rfl (lv_at hl 0 rfl) ?_
                    refine lv_bipush (v := 16) hx hb dX12_does_386 (by decide) ?_
                    refine lv_icmp_ne (tgt := 418) hx hb dX12_does_388 (by decide) (fun c_322 => ?_) (fun c_322 => ?_)
                    · refine lv_iload_n hx hb dX12_does_418 rfl (lv_at hl 0 rfl) ?_
                      refine lv_bipush (v := 14) hx hb dX12_does_419 (by decide) ?_
                      refine lv_icmp_eq (tgt := 430) hx hb dX12_does_421 (by decide) (fun c_323 => ?_) (fun c_323 => ?_)
                      · exact absurd c_323 (by decide)
                      · refine lv_iload_n hx hb dX12_does_424 rfl (lv_at hl 0 rfl) ?_
                        refine lv_bipush (v := 15) hx hb dX12_does_425 (by decide) ?_
                        refine lv_icmp_ne (tgt := 505) hx hb dX12_does_427 (by decide) (fun c_324 => ?_) (fun c_324 => ?_)
                        · refine lv_aload_n hx hb dX12_does_505 rfl (lv_at hl 1 rfl) ?_
                          refine lv_iload_n hx hb dX12_does_506 rfl (lv_at hl 2 rfl) ?_
                          refine lv_iload_n hx hb dX12_does_507 rfl (lv_at hl 0 rfl) ?_
                          refine x_calliW (va_runV (As := [.int 1, .int 7]) (rest := []) ⟨hx, hb, hml, hown, hts⟩ (q_works1_7 l D y H.size ad zw σ T0 (show ((σ.1 73)).toInt = (T0.length : Int) + 1 from by first | omega | decide) (by first | omega | decide) hPT hop (show 0 ≤ ((σ.2.2.1 62) 1).toInt from by first | omega | decide) (show ((σ.2.2.1 62) 1).toInt < 1760 from by first | omega | decide) hB57 hB58 hB62 hB63) (cwV 2 hts g_q_does1_7 rfl rfl rfl (by decide +kernel) ⟨Nat.le_of_ble_eq_true rfl, Nat.le_of_ble_eq_true rfl⟩) (x_preV (q := (RX12, TX12, 85)) hK hP hD (ci := 11) (q0 := 0) rfl mwd_o0) rfl rfl hl.1 rfl (lv_room (Nat.le_of_ble_eq_true rfl)) dX12_does_508 ⟨Nat.le_of_ble_eq_true rfl, Nat.le_of_ble_eq_true rfl⟩) hP hD hS hA (fun r_325 u H locs hw hP hD hS => ?_)
                          obtain ⟨n_326, f_327, f_328, f_329, f_330, n_331, j_332, j_333, n_334, j_335, j_336, f_337, f_338, f_339, f_340, f_341, f_342⟩ := u
                          try dsimp only at hw
                          have hP : va_P D vwCl (mwd y ad zw (tI (tI (tI (tI (tJ (tJ (sJ (sJ (sI (sJ (sJ (sI (tI (tI (tI (tI (sI σ 73 n_326) 72 f_327) 63 f_328) 67 f_329) 66 f_330) 44 n_331) 42 j_332) 43 j_333) 68 n_334) 69 j_335) 70 j_336) 57 f_337) 58 f_338) 59 f_339) 60 f_340) 61 f_341) 62 f_342)) H := hP
                          have hD : va_D A (mwd y ad zw (tI (tI (tI (tI (tJ (tJ (sJ (sJ (sI (sJ (sJ (sI (tI (tI (tI (tI (sI σ 73 n_326) 72 f_327) 63 f_328) 67 f_329) 66 f_330) 44 n_331) 42 j_332) 43 j_333) 68 n_334) 69 j_335) 70 j_336) 57 f_337) 58 f_338) 59 f_339) 60 f_340) 61 f_341) 62 f_342)) := hD
                          have hw : (((f_329 1).toInt ≠ 0 ∨ (n_326.toInt = (T0.length : Int) + 1 ∧ PT (true :: T0) f_327 (f_342 1).toInt ∧ (f_328 1).toInt = ((σ.2.2.1 63) 1).toInt + 1 ∧ f_329 = (σ.2.2.1 67))) ∧ opc f_339 f_340 f_341 ∧ ((σ.2.2.1 62) 1).toInt ≤ (f_342 1).toInt ∧ (f_342 1).toInt - ((σ.2.2.1 62) 1).toInt ≤ (f_328 1).toInt - ((σ.2.2.1 63) 1).toInt ∧ f_342 0 = (σ.2.2.1 62) 0) ∧ bJ f_337 (-1000000000) 1000000000 ∧ bJ f_338 0 1000000000 ∧ bI f_342 0 1760 ∧ bI f_328 0 1000 := hw
                          obtain ⟨hw, hg_343, hg_344, hg_345, hg_346⟩ := hw
                          obtain ⟨hw, ho9, hl9, hl8, hl7⟩ := hw
                          rcases hw with hst9 | ⟨hp9, hPT9, hs9, hst9⟩
                          · skip
                            refine lv_pop hx hb dX12_does_511 rfl ?_
                            refine lv_iload_n hx hb dX12_does_512 rfl (lv_at hl 3 rfl) ?_
                            refine lv_iconst (v := 1) hx hb dX12_does_513 (by decide) ?_
                            refine lv_iadd hx hb dX12_does_514 ?_
                            refine lv_topi (fun i_347 ei_347 => ?_)
                            have vi_347 : i_347.toInt = k.toInt + 1 := by have h9 := x_add ei_347 (by omega) (by omega); omega
                            have hP : va_P D vwCl (mwd y ad zw (tI (tI (tI (tI (tI (tI (tI (tJ (tJ (sJ (sJ (sI (sJ (sJ (sI (tI (tI (tI (tI (sI σ 73 n_326) 72 f_327) 63 f_328) 67 f_329) 66 f_330) 44 n_331) 42 j_332) 43 j_333) 68 n_334) 69 j_335) 70 j_336) 57 f_337) 58 f_338) 59 f_339) 60 f_340) 61 f_341) 62 f_342) 71 (σ.2.2.1 71)) 64 (σ.2.2.1 64)) 65 (σ.2.2.1 65))) H := hP
                            have hD : va_D A (mwd y ad zw (tI (tI (tI (tI (tI (tI (tI (tJ (tJ (sJ (sJ (sI (sJ (sJ (sI (tI (tI (tI (tI (sI σ 73 n_326) 72 f_327) 63 f_328) 67 f_329) 66 f_330) 44 n_331) 42 j_332) 43 j_333) 68 n_334) 69 j_335) 70 j_336) 57 f_337) 58 f_338) 59 f_339) 60 f_340) 61 f_341) 62 f_342) 71 (σ.2.2.1 71)) 64 (σ.2.2.1 64)) 65 (σ.2.2.1 65))) := hD
                            exact x_iretW (v := i_347) (u := (n_326, f_327, f_328, f_329, f_330, n_331, j_332, j_333, n_334, j_335, j_336, f_337, f_338, f_339, f_340, f_341, f_342, (σ.2.2.1 71), (σ.2.2.1 64), (σ.2.2.1 65))) hx hb hr hQ (by (try dsimp only); exact ⟨⟨Or.inl hst9, ho9, by omega, by omega, hl7⟩, hg_343, hg_344, hg_345, hg_346, hB64, hB65⟩) hP hD hK hS dX12_does_515 hlocks
                          · skip
                            refine lv_pop hx hb dX12_does_511 rfl ?_
                            refine lv_iload_n hx hb dX12_does_512 rfl (lv_at hl 3 rfl) ?_
                            refine lv_iconst (v := 1) hx hb dX12_does_513 (by decide) ?_
                            refine lv_iadd hx hb dX12_does_514 ?_
                            refine lv_topi (fun i_348 ei_348 => ?_)
                            have vi_348 : i_348.toInt = k.toInt + 1 := by have h9 := x_add ei_348 (by omega) (by omega); omega
                            have hP : va_P D vwCl (mwd y ad zw (tI (tI (tI (tI (tI (tI (tI (tJ (tJ (sJ (sJ (sI (sJ (sJ (sI (tI (tI (tI (tI (sI σ 73 n_326) 72 f_327) 63 f_328) 67 f_329) 66 f_330) 44 n_331) 42 j_332) 43 j_333) 68 n_334) 69 j_335) 70 j_336) 57 f_337) 58 f_338) 59 f_339) 60 f_340) 61 f_341) 62 f_342) 71 (σ.2.2.1 71)) 64 (σ.2.2.1 64)) 65 (σ.2.2.1 65))) H := hP
                            have hD : va_D A (mwd y ad zw (tI (tI (tI (tI (tI (tI (tI (tJ (tJ (sJ (sJ (sI (sJ (sJ (sI (tI (tI (tI (tI (sI σ 73 n_326) 72 f_327) 63 f_328) 67 f_329) 66 f_330) 44 n_331) 42 j_332) 43 j_333) 68 n_334) 69 j_335) 70 j_336) 57 f_337) 58 f_338) 59 f_339) 60 f_340) 61 f_341) 62 f_342) 71 (σ.2.2.1 71)) 64 (σ.2.2.1 64)) 65 (σ.2.2.1 65))) := hD
                            exact x_iretW (v := i_348) (u := (n_326, f_327, f_328, f_329, f_330, n_331, j_332, j_333, n_334, j_335, j_336, f_337, f_338, f_339, f_340, f_341, f_342, (σ.2.2.1 71), (σ.2.2.1 64), (σ.2.2.1 65))) hx hb hr hQ (by (try dsimp only); exact ⟨⟨Or.inr ⟨(i + 1), (true :: T0), b1, (by push_cast; omega), hn, (by (try simp only [List.length_cons]); omega), hPT9, (bI_mono hh (by omega)), (MU_step (by omega) rfl (by omega)), hst9⟩, ho9, by omega, by omega, hl7⟩, hg_343, hg_344, hg_345, hg_346, hB64, hB65⟩) hP hD hK hS dX12_does_515 hlocks
                        · exact absurd c_324 (by decide)
                    · exact absurd c_322 (by decide)
                  · exact absurd (by decide) c_321
                · exact absurd (by decide) c_320
              · exact absurd (by decide) c_319
            · exact absurd (by decide) c_318
          · exact absurd c_317 (by decide)
        · exact absurd c_316 (by decide)
      · exact absurd c_315 (by decide)
    · exact absurd (by decide) c_314
  · simp only [List.length_cons] at hp hLn
    rcases (show i_2 = 11 ∨ i_2 = 12 ∨ i_2 = 13 by simp only [x_eq, Int32.reduceToInt]; omega) with rfl | rfl | rfl
    · refine lv_istore_n (lv' := [(3, .int 11), (0, .ref (ad 1)), (1, .int 1), (2, .int k)]) hx hb dX12_does_10 rfl hl (by decide) rfl (fun ls hl => ?_)
      refine lv_iload_n hx hb dX12_does_11 rfl (lv_at hl 0 rfl) ?_
      refine lv_sipush (v := 1000) hx hb dX12_does_12 (by decide) ?_
      refine lv_icmp_lt (tgt := 54) hx hb dX12_does_15 (by decide) (fun c_349 => ?_) (fun c_349 => ?_)
      · refine lv_iload_n hx hb dX12_does_54 rfl (lv_at hl 0 rfl) ?_
        refine lv_sipush (v := 502) hx hb dX12_does_55 (by decide) ?_
        refine lv_icmp_ne (tgt := 74) hx hb dX12_does_58 (by decide) (fun c_350 => ?_) (fun c_350 => ?_)
        · refine lv_iload_n hx hb dX12_does_74 rfl (lv_at hl 0 rfl) ?_
          refine lv_sipush (v := 501) hx hb dX12_does_75 (by decide) ?_
          refine lv_icmp_ne (tgt := 122) hx hb dX12_does_78 (by decide) (fun c_351 => ?_) (fun c_351 => ?_)
          · refine lv_iload_n hx hb dX12_does_122 rfl (lv_at hl 0 rfl) ?_
            refine lv_sipush (v := 500) hx hb dX12_does_123 (by decide) ?_
            refine lv_icmp_ne (tgt := 197) hx hb dX12_does_126 (by decide) (fun c_352 => ?_) (fun c_352 => ?_)
            · refine lv_iload_n hx hb dX12_does_197 rfl (lv_at hl 0 rfl) ?_
              refine lv_sipush (v := 400) hx hb dX12_does_198 (by decide) ?_
              refine lv_icmp_lt (tgt := 251) hx hb dX12_does_201 (by decide) (fun c_353 => ?_) (fun c_353 => ?_)
              · refine lv_iload_n hx hb dX12_does_251 rfl (lv_at hl 0 rfl) ?_
                refine lv_sipush (v := 300) hx hb dX12_does_252 (by decide) ?_
                refine lv_icmp_lt (tgt := 290) hx hb dX12_does_255 (by decide) (fun c_354 => ?_) (fun c_354 => ?_)
                · refine lv_iload_n hx hb dX12_does_290 rfl (lv_at hl 0 rfl) ?_
                  refine lv_sipush (v := 200) hx hb dX12_does_291 (by decide) ?_
                  refine lv_icmp_lt (tgt := 348) hx hb dX12_does_294 (by decide) (fun c_355 => ?_) (fun c_355 => ?_)
                  · refine lv_iload_n hx hb dX12_does_348 rfl (lv_at hl 0 rfl) ?_
                    refine lv_bipush (v := 100) hx hb dX12_does_349 (by decide) ?_
                    refine lv_icmp_lt (tgt := 385) hx hb dX12_does_351 (by decide) (fun c_356 => ?_) (fun c_356 => ?_)
                    · refine lv_iload_n hx hb dX12_does_385 rfl (lv_at hl 0 rfl) ?_
                      refine lv_bipush (v := 16) hx hb dX12_does_386 (by decide) ?_
                      refine lv_icmp_ne (tgt := 418) hx hb dX12_does_388 (by decide) (fun c_357 => ?_) (fun c_357 => ?_)
                      · refine lv_iload_n hx hb dX12_does_418 rfl (lv_at hl 0 rfl) ?_
                        refine lv_bipush (v := 14) hx hb dX12_does_419 (by decide) ?_
                        refine lv_icmp_eq (tgt := 430) hx hb dX12_does_421 (by decide) (fun c_358 => ?_) (fun c_358 => ?_)
                        · exact absurd c_358 (by decide)
                        · refine lv_iload_n hx hb dX12_does_424 rfl (lv_at hl 0 rfl) ?_
                          refine lv_bipush (v := 15) hx hb dX12_does_425 (by decide) ?_
                          refine lv_icmp_ne (tgt := 505) hx hb dX12_does_427 (by decide) (fun c_359 => ?_) (fun c_359 => ?_)
                          · refine lv_aload_n hx hb dX12_does_505 rfl (lv_at hl 1 rfl) ?_
                            refine lv_iload_n hx hb dX12_does_506 rfl (lv_at hl 2 rfl) ?_
                            refine lv_iload_n hx hb dX12_does_507 rfl (lv_at hl 0 rfl) ?_
                            refine x_calliW (va_runV (As := [.int 1, .int 11]) (rest := []) ⟨hx, hb, hml, hown, hts⟩ (q_works1_11 l D y H.size ad zw σ T0 (show ((σ.1 73)).toInt = (T0.length : Int) + 2 from by first | omega | decide) (by first | omega | decide) hPT hop (show 0 ≤ ((σ.2.2.1 62) 1).toInt from by first | omega | decide) (show ((σ.2.2.1 62) 1).toInt < 1760 from by first | omega | decide) hB57 hB58 hB62 hB63) (cwV 2 hts g_q_does1_8 rfl rfl rfl (by decide +kernel) ⟨Nat.le_of_ble_eq_true rfl, Nat.le_of_ble_eq_true rfl⟩) (x_preV (q := (RX12, TX12, 85)) hK hP hD (ci := 11) (q0 := 0) rfl mwd_o0) rfl rfl hl.1 rfl (lv_room (Nat.le_of_ble_eq_true rfl)) dX12_does_508 ⟨Nat.le_of_ble_eq_true rfl, Nat.le_of_ble_eq_true rfl⟩) hP hD hS hA (fun r_360 u H locs hw hP hD hS => ?_)
                            obtain ⟨n_361, f_362, f_363, f_364, f_365, n_366, j_367, j_368, n_369, j_370, j_371, f_372, f_373, f_374, f_375, f_376, f_377⟩ := u
                            try dsimp only at hw
                            have hP : va_P D vwCl (mwd y ad zw (tI (tI (tI (tI (tJ (tJ (sJ (sJ (sI (sJ (sJ (sI (tI (tI (tI (tI (sI σ 73 n_361) 72 f_362) 63 f_363) 67 f_364) 66 f_365) 44 n_366) 42 j_367) 43 j_368) 68 n_369) 69 j_370) 70 j_371) 57 f_372) 58 f_373) 59 f_374) 60 f_375) 61 f_376) 62 f_377)) H := hP
                            have hD : va_D A (mwd y ad zw (tI (tI (tI (tI (tJ (tJ (sJ (sJ (sI (sJ (sJ (sI (tI (tI (tI (tI (sI σ 73 n_361) 72 f_362) 63 f_363) 67 f_364) 66 f_365) 44 n_366) 42 j_367) 43 j_368) 68 n_369) 69 j_370) 70 j_371) 57 f_372) 58 f_373) 59 f_374) 60 f_375) 61 f_376) 62 f_377)) := hD
                            have hw : (((f_364 1).toInt ≠ 0 ∨ (n_361.toInt = (T0.length : Int) + 1 ∧ PT (false :: T0) f_362 (f_377 1).toInt ∧ (f_363 1).toInt = ((σ.2.2.1 63) 1).toInt + 1 ∧ f_364 = (σ.2.2.1 67))) ∧ opc f_374 f_375 f_376 ∧ ((σ.2.2.1 62) 1).toInt ≤ (f_377 1).toInt ∧ (f_377 1).toInt - ((σ.2.2.1 62) 1).toInt ≤ (f_363 1).toInt - ((σ.2.2.1 63) 1).toInt ∧ f_377 0 = (σ.2.2.1 62) 0) ∧ bJ f_372 (-1000000000) 1000000000 ∧ bJ f_373 0 1000000000 ∧ bI f_377 0 1760 ∧ bI f_363 0 1000 := hw
                            obtain ⟨hw, hg_378, hg_379, hg_380, hg_381⟩ := hw
                            obtain ⟨hw, ho9, hl9, hl8, hl7⟩ := hw
                            rcases hw with hst9 | ⟨hp9, hPT9, hs9, hst9⟩
                            · skip
                              refine lv_pop hx hb dX12_does_511 rfl ?_
                              refine lv_iload_n hx hb dX12_does_512 rfl (lv_at hl 3 rfl) ?_
                              refine lv_iconst (v := 1) hx hb dX12_does_513 (by decide) ?_
                              refine lv_iadd hx hb dX12_does_514 ?_
                              refine lv_topi (fun i_382 ei_382 => ?_)
                              have vi_382 : i_382.toInt = k.toInt + 1 := by have h9 := x_add ei_382 (by omega) (by omega); omega
                              have hP : va_P D vwCl (mwd y ad zw (tI (tI (tI (tI (tI (tI (tI (tJ (tJ (sJ (sJ (sI (sJ (sJ (sI (tI (tI (tI (tI (sI σ 73 n_361) 72 f_362) 63 f_363) 67 f_364) 66 f_365) 44 n_366) 42 j_367) 43 j_368) 68 n_369) 69 j_370) 70 j_371) 57 f_372) 58 f_373) 59 f_374) 60 f_375) 61 f_376) 62 f_377) 71 (σ.2.2.1 71)) 64 (σ.2.2.1 64)) 65 (σ.2.2.1 65))) H := hP
                              have hD : va_D A (mwd y ad zw (tI (tI (tI (tI (tI (tI (tI (tJ (tJ (sJ (sJ (sI (sJ (sJ (sI (tI (tI (tI (tI (sI σ 73 n_361) 72 f_362) 63 f_363) 67 f_364) 66 f_365) 44 n_366) 42 j_367) 43 j_368) 68 n_369) 69 j_370) 70 j_371) 57 f_372) 58 f_373) 59 f_374) 60 f_375) 61 f_376) 62 f_377) 71 (σ.2.2.1 71)) 64 (σ.2.2.1 64)) 65 (σ.2.2.1 65))) := hD
                              exact x_iretW (v := i_382) (u := (n_361, f_362, f_363, f_364, f_365, n_366, j_367, j_368, n_369, j_370, j_371, f_372, f_373, f_374, f_375, f_376, f_377, (σ.2.2.1 71), (σ.2.2.1 64), (σ.2.2.1 65))) hx hb hr hQ (by (try dsimp only); exact ⟨⟨Or.inl hst9, ho9, by omega, by omega, hl7⟩, hg_378, hg_379, hg_380, hg_381, hB64, hB65⟩) hP hD hK hS dX12_does_515 hlocks
                            · skip
                              refine lv_pop hx hb dX12_does_511 rfl ?_
                              refine lv_iload_n hx hb dX12_does_512 rfl (lv_at hl 3 rfl) ?_
                              refine lv_iconst (v := 1) hx hb dX12_does_513 (by decide) ?_
                              refine lv_iadd hx hb dX12_does_514 ?_
                              refine lv_topi (fun i_383 ei_383 => ?_)
                              have vi_383 : i_383.toInt = k.toInt + 1 := by have h9 := x_add ei_383 (by omega) (by omega); omega
                              have hP : va_P D vwCl (mwd y ad zw (tI (tI (tI (tI (tI (tI (tI (tJ (tJ (sJ (sJ (sI (sJ (sJ (sI (tI (tI (tI (tI (sI σ 73 n_361) 72 f_362) 63 f_363) 67 f_364) 66 f_365) 44 n_366) 42 j_367) 43 j_368) 68 n_369) 69 j_370) 70 j_371) 57 f_372) 58 f_373) 59 f_374) 60 f_375) 61 f_376) 62 f_377) 71 (σ.2.2.1 71)) 64 (σ.2.2.1 64)) 65 (σ.2.2.1 65))) H := hP
                              have hD : va_D A (mwd y ad zw (tI (tI (tI (tI (tI (tI (tI (tJ (tJ (sJ (sJ (sI (sJ (sJ (sI (tI (tI (tI (tI (sI σ 73 n_361) 72 f_362) 63 f_363) 67 f_364) 66 f_365) 44 n_366) 42 j_367) 43 j_368) 68 n_369) 69 j_370) 70 j_371) 57 f_372) 58 f_373) 59 f_374) 60 f_375) 61 f_376) 62 f_377) 71 (σ.2.2.1 71)) 64 (σ.2.2.1 64)) 65 (σ.2.2.1 65))) := hD
                              exact x_iretW (v := i_383) (u := (n_361, f_362, f_363, f_364, f_365, n_366, j_367, j_368, n_369, j_370, j_371, f_372, f_373, f_374, f_375, f_376, f_377, (σ.2.2.1 71), (σ.2.2.1 64), (σ.2.2.1 65))) hx hb hr hQ (by (try dsimp only); exact ⟨⟨Or.inr ⟨(i + 1), (false :: T0), b9, (by push_cast; omega), hn, (by (try simp only [List.length_cons]); omega), hPT9, (bI_mono hh (by omega)), (MU_step (by omega) rfl (by omega)), hst9⟩, ho9, by omega, by omega, hl7⟩, hg_378, hg_379, hg_380, hg_381, hB64, hB65⟩) hP hD hK hS dX12_does_515 hlocks
                          · exact absurd c_359 (by decide)
                      · exact absurd c_357 (by decide)
                    · exact absurd (by decide) c_356
                  · exact absurd (by decide) c_355
                · exact absurd (by decide) c_354
              · exact absurd (by decide) c_353
            · exact absurd c_352 (by decide)
          · exact absurd c_351 (by decide)
        · exact absurd c_350 (by decide)
      · exact absurd (by decide) c_349
    · refine lv_istore_n (lv' := [(3, .int 12), (0, .ref (ad 1)), (1, .int 1), (2, .int k)]) hx hb dX12_does_10 rfl hl (by decide) rfl (fun ls hl => ?_)
      refine lv_iload_n hx hb dX12_does_11 rfl (lv_at hl 0 rfl) ?_
      refine lv_sipush (v := 1000) hx hb dX12_does_12 (by decide) ?_
      refine lv_icmp_lt (tgt := 54) hx hb dX12_does_15 (by decide) (fun c_384 => ?_) (fun c_384 => ?_)
      · refine lv_iload_n hx hb dX12_does_54 rfl (lv_at hl 0 rfl) ?_
        refine lv_sipush (v := 502) hx hb dX12_does_55 (by decide) ?_
        refine lv_icmp_ne (tgt := 74) hx hb dX12_does_58 (by decide) (fun c_385 => ?_) (fun c_385 => ?_)
        · refine lv_iload_n hx hb dX12_does_74 rfl (lv_at hl 0 rfl) ?_
          refine lv_sipush (v := 501) hx hb dX12_does_75 (by decide) ?_
          refine lv_icmp_ne (tgt := 122) hx hb dX12_does_78 (by decide) (fun c_386 => ?_) (fun c_386 => ?_)
          · refine lv_iload_n hx hb dX12_does_122 rfl (lv_at hl 0 rfl) ?_
            refine lv_sipush (v := 500) hx hb dX12_does_123 (by decide) ?_
            refine lv_icmp_ne (tgt := 197) hx hb dX12_does_126 (by decide) (fun c_387 => ?_) (fun c_387 => ?_)
            · refine lv_iload_n hx hb dX12_does_197 rfl (lv_at hl 0 rfl) ?_
              refine lv_sipush (v := 400) hx hb dX12_does_198 (by decide) ?_
              refine lv_icmp_lt (tgt := 251) hx hb dX12_does_201 (by decide) (fun c_388 => ?_) (fun c_388 => ?_)
              · refine lv_iload_n hx hb dX12_does_251 rfl (lv_at hl 0 rfl) ?_
                refine lv_sipush (v := 300) hx hb dX12_does_252 (by decide) ?_
                refine lv_icmp_lt (tgt := 290) hx hb dX12_does_255 (by decide) (fun c_389 => ?_) (fun c_389 => ?_)
                · refine lv_iload_n hx hb dX12_does_290 rfl (lv_at hl 0 rfl) ?_
                  refine lv_sipush (v := 200) hx hb dX12_does_291 (by decide) ?_
                  refine lv_icmp_lt (tgt := 348) hx hb dX12_does_294 (by decide) (fun c_390 => ?_) (fun c_390 => ?_)
                  · refine lv_iload_n hx hb dX12_does_348 rfl (lv_at hl 0 rfl) ?_
                    refine lv_bipush (v := 100) hx hb dX12_does_349 (by decide) ?_
                    refine lv_icmp_lt (tgt := 385) hx hb dX12_does_351 (by decide) (fun c_391 => ?_) (fun c_391 => ?_)
                    · refine lv_iload_n hx hb dX12_does_385 rfl (lv_at hl 0 rfl) ?_
                      refine lv_bipush (v := 16) hx hb dX12_does_386 (by decide) ?_
                      refine lv_icmp_ne (tgt := 418) hx hb dX12_does_388 (by decide) (fun c_392 => ?_) (fun c_392 => ?_)
                      · refine lv_iload_n hx hb dX12_does_418 rfl (lv_at hl 0 rfl) ?_
                        refine lv_bipush (v := 14) hx hb dX12_does_419 (by decide) ?_
                        refine lv_icmp_eq (tgt := 430) hx hb dX12_does_421 (by decide) (fun c_393 => ?_) (fun c_393 => ?_)
                        · exact absurd c_393 (by decide)
                        · refine lv_iload_n hx hb dX12_does_424 rfl (lv_at hl 0 rfl) ?_
                          refine lv_bipush (v := 15) hx hb dX12_does_425 (by decide) ?_
                          refine lv_icmp_ne (tgt := 505) hx hb dX12_does_427 (by decide) (fun c_394 => ?_) (fun c_394 => ?_)
                          · refine lv_aload_n hx hb dX12_does_505 rfl (lv_at hl 1 rfl) ?_
                            refine lv_iload_n hx hb dX12_does_506 rfl (lv_at hl 2 rfl) ?_
                            refine lv_iload_n hx hb dX12_does_507 rfl (lv_at hl 0 rfl) ?_
                            refine x_calliW (va_runV (As := [.int 1, .int 12]) (rest := []) ⟨hx, hb, hml, hown, hts⟩ (q_works1_12 l D y H.size ad zw σ T0 (show ((σ.1 73)).toInt = (T0.length : Int) + 2 from by first | omega | decide) (by first | omega | decide) hPT hop (show 0 ≤ ((σ.2.2.1 62) 1).toInt from by first | omega | decide) (show ((σ.2.2.1 62) 1).toInt < 1760 from by first | omega | decide) hB57 hB58 hB62 hB63) (cwV 2 hts g_q_does1_9 rfl rfl rfl (by decide +kernel) ⟨Nat.le_of_ble_eq_true rfl, Nat.le_of_ble_eq_true rfl⟩) (x_preV (q := (RX12, TX12, 85)) hK hP hD (ci := 11) (q0 := 0) rfl mwd_o0) rfl rfl hl.1 rfl (lv_room (Nat.le_of_ble_eq_true rfl)) dX12_does_508 ⟨Nat.le_of_ble_eq_true rfl, Nat.le_of_ble_eq_true rfl⟩) hP hD hS hA (fun r_395 u H locs hw hP hD hS => ?_)
                            obtain ⟨n_396, f_397, f_398, f_399, f_400, n_401, j_402, j_403, n_404, j_405, j_406, f_407, f_408, f_409, f_410, f_411, f_412⟩ := u
                            try dsimp only at hw
                            have hP : va_P D vwCl (mwd y ad zw (tI (tI (tI (tI (tJ (tJ (sJ (sJ (sI (sJ (sJ (sI (tI (tI (tI (tI (sI σ 73 n_396) 72 f_397) 63 f_398) 67 f_399) 66 f_400) 44 n_401) 42 j_402) 43 j_403) 68 n_404) 69 j_405) 70 j_406) 57 f_407) 58 f_408) 59 f_409) 60 f_410) 61 f_411) 62 f_412)) H := hP
                            have hD : va_D A (mwd y ad zw (tI (tI (tI (tI (tJ (tJ (sJ (sJ (sI (sJ (sJ (sI (tI (tI (tI (tI (sI σ 73 n_396) 72 f_397) 63 f_398) 67 f_399) 66 f_400) 44 n_401) 42 j_402) 43 j_403) 68 n_404) 69 j_405) 70 j_406) 57 f_407) 58 f_408) 59 f_409) 60 f_410) 61 f_411) 62 f_412)) := hD
                            have hw : (((f_399 1).toInt ≠ 0 ∨ (n_396.toInt = (T0.length : Int) + 1 ∧ PT (false :: T0) f_397 (f_412 1).toInt ∧ (f_398 1).toInt = ((σ.2.2.1 63) 1).toInt + 1 ∧ f_399 = (σ.2.2.1 67))) ∧ opc f_409 f_410 f_411 ∧ ((σ.2.2.1 62) 1).toInt ≤ (f_412 1).toInt ∧ (f_412 1).toInt - ((σ.2.2.1 62) 1).toInt ≤ (f_398 1).toInt - ((σ.2.2.1 63) 1).toInt ∧ f_412 0 = (σ.2.2.1 62) 0) ∧ bJ f_407 (-1000000000) 1000000000 ∧ bJ f_408 0 1000000000 ∧ bI f_412 0 1760 ∧ bI f_398 0 1000 := hw
                            obtain ⟨hw, hg_413, hg_414, hg_415, hg_416⟩ := hw
                            obtain ⟨hw, ho9, hl9, hl8, hl7⟩ := hw
                            rcases hw with hst9 | ⟨hp9, hPT9, hs9, hst9⟩
                            · skip
                              refine lv_pop hx hb dX12_does_511 rfl ?_
                              refine lv_iload_n hx hb dX12_does_512 rfl (lv_at hl 3 rfl) ?_
                              refine lv_iconst (v := 1) hx hb dX12_does_513 (by decide) ?_
                              refine lv_iadd hx hb dX12_does_514 ?_
                              refine lv_topi (fun i_417 ei_417 => ?_)
                              have vi_417 : i_417.toInt = k.toInt + 1 := by have h9 := x_add ei_417 (by omega) (by omega); omega
                              have hP : va_P D vwCl (mwd y ad zw (tI (tI (tI (tI (tI (tI (tI (tJ (tJ (sJ (sJ (sI (sJ (sJ (sI (tI (tI (tI (tI (sI σ 73 n_396) 72 f_397) 63 f_398) 67 f_399) 66 f_400) 44 n_401) 42 j_402) 43 j_403) 68 n_404) 69 j_405) 70 j_406) 57 f_407) 58 f_408) 59 f_409) 60 f_410) 61 f_411) 62 f_412) 71 (σ.2.2.1 71)) 64 (σ.2.2.1 64)) 65 (σ.2.2.1 65))) H := hP
                              have hD : va_D A (mwd y ad zw (tI (tI (tI (tI (tI (tI (tI (tJ (tJ (sJ (sJ (sI (sJ (sJ (sI (tI (tI (tI (tI (sI σ 73 n_396) 72 f_397) 63 f_398) 67 f_399) 66 f_400) 44 n_401) 42 j_402) 43 j_403) 68 n_404) 69 j_405) 70 j_406) 57 f_407) 58 f_408) 59 f_409) 60 f_410) 61 f_411) 62 f_412) 71 (σ.2.2.1 71)) 64 (σ.2.2.1 64)) 65 (σ.2.2.1 65))) := hD
                              exact x_iretW (v := i_417) (u := (n_396, f_397, f_398, f_399, f_400, n_401, j_402, j_403, n_404, j_405, j_406, f_407, f_408, f_409, f_410, f_411, f_412, (σ.2.2.1 71), (σ.2.2.1 64), (σ.2.2.1 65))) hx hb hr hQ (by (try dsimp only); exact ⟨⟨Or.inl hst9, ho9, by omega, by omega, hl7⟩, hg_413, hg_414, hg_415, hg_416, hB64, hB65⟩) hP hD hK hS dX12_does_515 hlocks
                            · skip
                              refine lv_pop hx hb dX12_does_511 rfl ?_
                              refine lv_iload_n hx hb dX12_does_512 rfl (lv_at hl 3 rfl) ?_
                              refine lv_iconst (v := 1) hx hb dX12_does_513 (by decide) ?_
                              refine lv_iadd hx hb dX12_does_514 ?_
                              refine lv_topi (fun i_418 ei_418 => ?_)
                              have vi_418 : i_418.toInt = k.toInt + 1 := by have h9 := x_add ei_418 (by omega) (by omega); omega
                              have hP : va_P D vwCl (mwd y ad zw (tI (tI (tI (tI (tI (tI (tI (tJ (tJ (sJ (sJ (sI (sJ (sJ (sI (tI (tI (tI (tI (sI σ 73 n_396) 72 f_397) 63 f_398) 67 f_399) 66 f_400) 44 n_401) 42 j_402) 43 j_403) 68 n_404) 69 j_405) 70 j_406) 57 f_407) 58 f_408) 59 f_409) 60 f_410) 61 f_411) 62 f_412) 71 (σ.2.2.1 71)) 64 (σ.2.2.1 64)) 65 (σ.2.2.1 65))) H := hP
                              have hD : va_D A (mwd y ad zw (tI (tI (tI (tI (tI (tI (tI (tJ (tJ (sJ (sJ (sI (sJ (sJ (sI (tI (tI (tI (tI (sI σ 73 n_396) 72 f_397) 63 f_398) 67 f_399) 66 f_400) 44 n_401) 42 j_402) 43 j_403) 68 n_404) 69 j_405) 70 j_406) 57 f_407) 58 f_408) 59 f_409) 60 f_410) 61 f_411) 62 f_412) 71 (σ.2.2.1 71)) 64 (σ.2.2.1 64)) 65 (σ.2.2.1 65))) := hD
                              exact x_iretW (v := i_418) (u := (n_396, f_397, f_398, f_399, f_400, n_401, j_402, j_403, n_404, j_405, j_406, f_407, f_408, f_409, f_410, f_411, f_412, (σ.2.2.1 71), (σ.2.2.1 64), (σ.2.2.1 65))) hx hb hr hQ (by (try dsimp only); exact ⟨⟨Or.inr ⟨(i + 1), (false :: T0), b9, (by push_cast; omega), hn, (by (try simp only [List.length_cons]); omega), hPT9, (bI_mono hh (by omega)), (MU_step (by omega) rfl (by omega)), hst9⟩, ho9, by omega, by omega, hl7⟩, hg_413, hg_414, hg_415, hg_416, hB64, hB65⟩) hP hD hK hS dX12_does_515 hlocks
                          · exact absurd c_394 (by decide)
                      · exact absurd c_392 (by decide)
                    · exact absurd (by decide) c_391
                  · exact absurd (by decide) c_390
                · exact absurd (by decide) c_389
              · exact absurd (by decide) c_388
            · exact absurd c_387 (by decide)
          · exact absurd c_386 (by decide)
        · exact absurd c_385 (by decide)
      · exact absurd (by decide) c_384
    · refine lv_istore_n (lv' := [(3, .int 13), (0, .ref (ad 1)), (1, .int 1), (2, .int k)]) hx hb dX12_does_10 rfl hl (by decide) rfl (fun ls hl => ?_)
      refine lv_iload_n hx hb dX12_does_11 rfl (lv_at hl 0 rfl) ?_
      refine lv_sipush (v := 1000) hx hb dX12_does_12 (by decide) ?_
      refine lv_icmp_lt (tgt := 54) hx hb dX12_does_15 (by decide) (fun c_419 => ?_) (fun c_419 => ?_)
      · refine lv_iload_n hx hb dX12_does_54 rfl (lv_at hl 0 rfl) ?_
        refine lv_sipush (v := 502) hx hb dX12_does_55 (by decide) ?_
        refine lv_icmp_ne (tgt := 74) hx hb dX12_does_58 (by decide) (fun c_420 => ?_) (fun c_420 => ?_)
        · refine lv_iload_n hx hb dX12_does_74 rfl (lv_at hl 0 rfl) ?_
          refine lv_sipush (v := 501) hx hb dX12_does_75 (by decide) ?_
          refine lv_icmp_ne (tgt := 122) hx hb dX12_does_78 (by decide) (fun c_421 => ?_) (fun c_421 => ?_)
          · refine lv_iload_n hx hb dX12_does_122 rfl (lv_at hl 0 rfl) ?_
            refine lv_sipush (v := 500) hx hb dX12_does_123 (by decide) ?_
            refine lv_icmp_ne (tgt := 197) hx hb dX12_does_126 (by decide) (fun c_422 => ?_) (fun c_422 => ?_)
            · refine lv_iload_n hx hb dX12_does_197 rfl (lv_at hl 0 rfl) ?_
              refine lv_sipush (v := 400) hx hb dX12_does_198 (by decide) ?_
              refine lv_icmp_lt (tgt := 251) hx hb dX12_does_201 (by decide) (fun c_423 => ?_) (fun c_423 => ?_)
              · refine lv_iload_n hx hb dX12_does_251 rfl (lv_at hl 0 rfl) ?_
                refine lv_sipush (v := 300) hx hb dX12_does_252 (by decide) ?_
                refine lv_icmp_lt (tgt := 290) hx hb dX12_does_255 (by decide) (fun c_424 => ?_) (fun c_424 => ?_)
                · refine lv_iload_n hx hb dX12_does_290 rfl (lv_at hl 0 rfl) ?_
                  refine lv_sipush (v := 200) hx hb dX12_does_291 (by decide) ?_
                  refine lv_icmp_lt (tgt := 348) hx hb dX12_does_294 (by decide) (fun c_425 => ?_) (fun c_425 => ?_)
                  · refine lv_iload_n hx hb dX12_does_348 rfl (lv_at hl 0 rfl) ?_
                    refine lv_bipush (v := 100) hx hb dX12_does_349 (by decide) ?_
                    refine lv_icmp_lt (tgt := 385) hx hb dX12_does_351 (by decide) (fun c_426 => ?_) (fun c_426 => ?_)
                    · refine lv_iload_n hx hb dX12_does_385 rfl (lv_at hl 0 rfl) ?_
                      refine lv_bipush (v := 16) hx hb dX12_does_386 (by decide) ?_
                      refine lv_icmp_ne (tgt := 418) hx hb dX12_does_388 (by decide) (fun c_427 => ?_) (fun c_427 => ?_)
                      · refine lv_iload_n hx hb dX12_does_418 rfl (lv_at hl 0 rfl) ?_
                        refine lv_bipush (v := 14) hx hb dX12_does_419 (by decide) ?_
                        refine lv_icmp_eq (tgt := 430) hx hb dX12_does_421 (by decide) (fun c_428 => ?_) (fun c_428 => ?_)
                        · exact absurd c_428 (by decide)
                        · refine lv_iload_n hx hb dX12_does_424 rfl (lv_at hl 0 rfl) ?_
                          refine lv_bipush (v := 15) hx hb dX12_does_425 (by decide) ?_
                          refine lv_icmp_ne (tgt := 505) hx hb dX12_does_427 (by decide) (fun c_429 => ?_) (fun c_429 => ?_)
                          · refine lv_aload_n hx hb dX12_does_505 rfl (lv_at hl 1 rfl) ?_
                            refine lv_iload_n hx hb dX12_does_506 rfl (lv_at hl 2 rfl) ?_
                            refine lv_iload_n hx hb dX12_does_507 rfl (lv_at hl 0 rfl) ?_
                            refine x_calliW (va_runV (As := [.int 1, .int 13]) (rest := []) ⟨hx, hb, hml, hown, hts⟩ (q_works1_13 l D y H.size ad zw σ T0 (show ((σ.1 73)).toInt = (T0.length : Int) + 2 from by first | omega | decide) (by first | omega | decide) hPT hop (show 0 ≤ ((σ.2.2.1 62) 1).toInt from by first | omega | decide) (show ((σ.2.2.1 62) 1).toInt < 1760 from by first | omega | decide) hB57 hB58 hB62 hB63) (cwV 2 hts g_q_does1_10 rfl rfl rfl (by decide +kernel) ⟨Nat.le_of_ble_eq_true rfl, Nat.le_of_ble_eq_true rfl⟩) (x_preV (q := (RX12, TX12, 85)) hK hP hD (ci := 11) (q0 := 0) rfl mwd_o0) rfl rfl hl.1 rfl (lv_room (Nat.le_of_ble_eq_true rfl)) dX12_does_508 ⟨Nat.le_of_ble_eq_true rfl, Nat.le_of_ble_eq_true rfl⟩) hP hD hS hA (fun r_430 u H locs hw hP hD hS => ?_)
                            obtain ⟨n_431, f_432, f_433, f_434, f_435, n_436, j_437, j_438, n_439, j_440, j_441, f_442, f_443, f_444, f_445, f_446, f_447⟩ := u
                            try dsimp only at hw
                            have hP : va_P D vwCl (mwd y ad zw (tI (tI (tI (tI (tJ (tJ (sJ (sJ (sI (sJ (sJ (sI (tI (tI (tI (tI (sI σ 73 n_431) 72 f_432) 63 f_433) 67 f_434) 66 f_435) 44 n_436) 42 j_437) 43 j_438) 68 n_439) 69 j_440) 70 j_441) 57 f_442) 58 f_443) 59 f_444) 60 f_445) 61 f_446) 62 f_447)) H := hP
                            have hD : va_D A (mwd y ad zw (tI (tI (tI (tI (tJ (tJ (sJ (sJ (sI (sJ (sJ (sI (tI (tI (tI (tI (sI σ 73 n_431) 72 f_432) 63 f_433) 67 f_434) 66 f_435) 44 n_436) 42 j_437) 43 j_438) 68 n_439) 69 j_440) 70 j_441) 57 f_442) 58 f_443) 59 f_444) 60 f_445) 61 f_446) 62 f_447)) := hD
                            have hw : (((f_434 1).toInt ≠ 0 ∨ (n_431.toInt = (T0.length : Int) + 1 ∧ PT (false :: T0) f_432 (f_447 1).toInt ∧ (f_433 1).toInt = ((σ.2.2.1 63) 1).toInt + 1 ∧ f_434 = (σ.2.2.1 67))) ∧ opc f_444 f_445 f_446 ∧ ((σ.2.2.1 62) 1).toInt ≤ (f_447 1).toInt ∧ (f_447 1).toInt - ((σ.2.2.1 62) 1).toInt ≤ (f_433 1).toInt - ((σ.2.2.1 63) 1).toInt ∧ f_447 0 = (σ.2.2.1 62) 0) ∧ bJ f_442 (-1000000000) 1000000000 ∧ bJ f_443 0 1000000000 ∧ bI f_447 0 1760 ∧ bI f_433 0 1000 := hw
                            obtain ⟨hw, hg_448, hg_449, hg_450, hg_451⟩ := hw
                            obtain ⟨hw, ho9, hl9, hl8, hl7⟩ := hw
                            rcases hw with hst9 | ⟨hp9, hPT9, hs9, hst9⟩
                            · skip
                              refine lv_pop hx hb dX12_does_511 rfl ?_
                              refine lv_iload_n hx hb dX12_does_512 rfl (lv_at hl 3 rfl) ?_
                              refine lv_iconst (v := 1) hx hb dX12_does_513 (by decide) ?_
                              refine lv_iadd hx hb dX12_does_514 ?_
                              refine lv_topi (fun i_452 ei_452 => ?_)
                              have vi_452 : i_452.toInt = k.toInt + 1 := by have h9 := x_add ei_452 (by omega) (by omega); omega
                              have hP : va_P D vwCl (mwd y ad zw (tI (tI (tI (tI (tI (tI (tI (tJ (tJ (sJ (sJ (sI (sJ (sJ (sI (tI (tI (tI (tI (sI σ 73 n_431) 72 f_432) 63 f_433) 67 f_434) 66 f_435) 44 n_436) 42 j_437) 43 j_438) 68 n_439) 69 j_440) 70 j_441) 57 f_442) 58 f_443) 59 f_444) 60 f_445) 61 f_446) 62 f_447) 71 (σ.2.2.1 71)) 64 (σ.2.2.1 64)) 65 (σ.2.2.1 65))) H := hP
                              have hD : va_D A (mwd y ad zw (tI (tI (tI (tI (tI (tI (tI (tJ (tJ (sJ (sJ (sI (sJ (sJ (sI (tI (tI (tI (tI (sI σ 73 n_431) 72 f_432) 63 f_433) 67 f_434) 66 f_435) 44 n_436) 42 j_437) 43 j_438) 68 n_439) 69 j_440) 70 j_441) 57 f_442) 58 f_443) 59 f_444) 60 f_445) 61 f_446) 62 f_447) 71 (σ.2.2.1 71)) 64 (σ.2.2.1 64)) 65 (σ.2.2.1 65))) := hD
                              exact x_iretW (v := i_452) (u := (n_431, f_432, f_433, f_434, f_435, n_436, j_437, j_438, n_439, j_440, j_441, f_442, f_443, f_444, f_445, f_446, f_447, (σ.2.2.1 71), (σ.2.2.1 64), (σ.2.2.1 65))) hx hb hr hQ (by (try dsimp only); exact ⟨⟨Or.inl hst9, ho9, by omega, by omega, hl7⟩, hg_448, hg_449, hg_450, hg_451, hB64, hB65⟩) hP hD hK hS dX12_does_515 hlocks
                            · skip
                              refine lv_pop hx hb dX12_does_511 rfl ?_
                              refine lv_iload_n hx hb dX12_does_512 rfl (lv_at hl 3 rfl) ?_
                              refine lv_iconst (v := 1) hx hb dX12_does_513 (by decide) ?_
                              refine lv_iadd hx hb dX12_does_514 ?_
                              refine lv_topi (fun i_453 ei_453 => ?_)
                              have vi_453 : i_453.toInt = k.toInt + 1 := by have h9 := x_add ei_453 (by omega) (by omega); omega
                              have hP : va_P D vwCl (mwd y ad zw (tI (tI (tI (tI (tI (tI (tI (tJ (tJ (sJ (sJ (sI (sJ (sJ (sI (tI (tI (tI (tI (sI σ 73 n_431) 72 f_432) 63 f_433) 67 f_434) 66 f_435) 44 n_436) 42 j_437) 43 j_438) 68 n_439) 69 j_440) 70 j_441) 57 f_442) 58 f_443) 59 f_444) 60 f_445) 61 f_446) 62 f_447) 71 (σ.2.2.1 71)) 64 (σ.2.2.1 64)) 65 (σ.2.2.1 65))) H := hP
                              have hD : va_D A (mwd y ad zw (tI (tI (tI (tI (tI (tI (tI (tJ (tJ (sJ (sJ (sI (sJ (sJ (sI (tI (tI (tI (tI (sI σ 73 n_431) 72 f_432) 63 f_433) 67 f_434) 66 f_435) 44 n_436) 42 j_437) 43 j_438) 68 n_439) 69 j_440) 70 j_441) 57 f_442) 58 f_443) 59 f_444) 60 f_445) 61 f_446) 62 f_447) 71 (σ.2.2.1 71)) 64 (σ.2.2.1 64)) 65 (σ.2.2.1 65))) := hD
                              exact x_iretW (v := i_453) (u := (n_431, f_432, f_433, f_434, f_435, n_436, j_437, j_438, n_439, j_440, j_441, f_442, f_443, f_444, f_445, f_446, f_447, (σ.2.2.1 71), (σ.2.2.1 64), (σ.2.2.1 65))) hx hb hr hQ (by (try dsimp only); exact ⟨⟨Or.inr ⟨(i + 1), (false :: T0), b9, (by push_cast; omega), hn, (by (try simp only [List.length_cons]); omega), hPT9, (bI_mono hh (by omega)), (MU_step (by omega) rfl (by omega)), hst9⟩, ho9, by omega, by omega, hl7⟩, hg_448, hg_449, hg_450, hg_451, hB64, hB65⟩) hP hD hK hS dX12_does_515 hlocks
                          · exact absurd c_429 (by decide)
                      · exact absurd c_427 (by decide)
                    · exact absurd (by decide) c_426
                  · exact absurd (by decide) c_425
                · exact absurd (by decide) c_424
              · exact absurd (by decide) c_423
            · exact absurd c_422 (by decide)
          · exact absurd c_421 (by decide)
        · exact absurd c_420 (by decide)
      · exact absurd (by decide) c_419
  · simp only [List.length_cons] at hp hLn
    rcases (show i_2 = 14 ∨ i_2 = 15 by simp only [x_eq, Int32.reduceToInt]; omega) with rfl | rfl
    · refine lv_istore_n (lv' := [(3, .int 14), (0, .ref (ad 1)), (1, .int 1), (2, .int k)]) hx hb dX12_does_10 rfl hl (by decide) rfl (fun ls hl => ?_)
      refine lv_iload_n hx hb dX12_does_11 rfl (lv_at hl 0 rfl) ?_
      refine lv_sipush (v := 1000) hx hb dX12_does_12 (by decide) ?_
      refine lv_icmp_lt (tgt := 54) hx hb dX12_does_15 (by decide) (fun c_454 => ?_) (fun c_454 => ?_)
      · refine lv_iload_n hx hb dX12_does_54 rfl (lv_at hl 0 rfl) ?_
        refine lv_sipush (v := 502) hx hb dX12_does_55 (by decide) ?_
        refine lv_icmp_ne (tgt := 74) hx hb dX12_does_58 (by decide) (fun c_455 => ?_) (fun c_455 => ?_)
        · refine lv_iload_n hx hb dX12_does_74 rfl (lv_at hl 0 rfl) ?_
          refine lv_sipush (v := 501) hx hb dX12_does_75 (by decide) ?_
          refine lv_icmp_ne (tgt := 122) hx hb dX12_does_78 (by decide) (fun c_456 => ?_) (fun c_456 => ?_)
          · refine lv_iload_n hx hb dX12_does_122 rfl (lv_at hl 0 rfl) ?_
            refine lv_sipush (v := 500) hx hb dX12_does_123 (by decide) ?_
            refine lv_icmp_ne (tgt := 197) hx hb dX12_does_126 (by decide) (fun c_457 => ?_) (fun c_457 => ?_)
            · refine lv_iload_n hx hb dX12_does_197 rfl (lv_at hl 0 rfl) ?_
              refine lv_sipush (v := 400) hx hb dX12_does_198 (by decide) ?_
              refine lv_icmp_lt (tgt := 251) hx hb dX12_does_201 (by decide) (fun c_458 => ?_) (fun c_458 => ?_)
              · refine lv_iload_n hx hb dX12_does_251 rfl (lv_at hl 0 rfl) ?_
                refine lv_sipush (v := 300) hx hb dX12_does_252 (by decide) ?_
                refine lv_icmp_lt (tgt := 290) hx hb dX12_does_255 (by decide) (fun c_459 => ?_) (fun c_459 => ?_)
                · refine lv_iload_n hx hb dX12_does_290 rfl (lv_at hl 0 rfl) ?_
                  refine lv_sipush (v := 200) hx hb dX12_does_291 (by decide) ?_
                  refine lv_icmp_lt (tgt := 348) hx hb dX12_does_294 (by decide) (fun c_460 => ?_) (fun c_460 => ?_)
                  · refine lv_iload_n hx hb dX12_does_348 rfl (lv_at hl 0 rfl) ?_
                    refine lv_bipush (v := 100) hx hb dX12_does_349 (by decide) ?_
                    refine lv_icmp_lt (tgt := 385) hx hb dX12_does_351 (by decide) (fun c_461 => ?_) (fun c_461 => ?_)
                    · refine lv_iload_n hx hb dX12_does_385 rfl (lv_at hl 0 rfl) ?_
                      refine lv_bipush (v := 16) hx hb dX12_does_386 (by decide) ?_
                      refine lv_icmp_ne (tgt := 418) hx hb dX12_does_388 (by decide) (fun c_462 => ?_) (fun c_462 => ?_)
                      · refine lv_iload_n hx hb dX12_does_418 rfl (lv_at hl 0 rfl) ?_
                        refine lv_bipush (v := 14) hx hb dX12_does_419 (by decide) ?_
                        refine lv_icmp_eq (tgt := 430) hx hb dX12_does_421 (by decide) (fun c_463 => ?_) (fun c_463 => ?_)
                        · refine lv_aload_n hx hb dX12_does_430 rfl (lv_at hl 1 rfl) ?_
                          refine lv_dup hx hb dX12_does_431 rfl ?_
                          refine va_get (D := D) (ci := 11) (v := .int (σ.1 73)) (C := RX12) (T := TX12) (N := 85) hx hb hts inX12 hown hK hP 0 mwd_o0 rfl 73 (by decide) fl421 (fun _ h9 => h9) rfl dX12_does_432 ?_
                          refine lv_iconst (v := 1) hx hb dX12_does_435 (by decide) ?_
                          refine lv_isub hx hb dX12_does_436 ?_
                          refine lv_topi (fun i_464 ei_464 => ?_)
                          have vi_464 : i_464.toInt = (σ.1 73).toInt - 1 := by have h9 := x_sub ei_464 (by omega) (by omega); omega
                          refine va_put (D := D) (ci := 11) (v := .int i_464) (ty := .int) (C := RX12) (T := TX12) (N := 85) hx hb hts inX12 tyX12 tyX12_ok nmX12 hown hK hP hD hS 0 mwd_o0 rfl 73 (by decide) fl421 (fun _ h9 => h9) rfl (by decide +kernel) rfl rfl (Nat.le_of_ble_eq_true rfl) dX12_does_437 (fun H locs hP hD hS => ?_)
                          have hP : va_P D vwCl (mwd y ad zw (sI σ 73 i_464)) H := x_trP hP mwd_p0_73
                          have hD : va_D A (mwd y ad zw (sI σ 73 i_464)) := x_trD hD mwd_p0_73
                          refine lv_aload_n hx hb dX12_does_440 rfl (lv_at hl 1 rfl) ?_
                          refine va_get (D := D) (ci := 11) (v := .ref (ad 72)) (C := RX12) (T := TX12) (N := 85) hx hb hts inX12 hown hK hP 0 mwd_o0 rfl 72 (by decide) fl160 (fun _ h9 => h9) rfl dX12_does_441 ?_
                          refine lv_aload_n hx hb dX12_does_444 rfl (lv_at hl 1 rfl) ?_
                          refine va_get (D := D) (ci := 11) (v := .int i_464) (C := RX12) (T := TX12) (N := 85) hx hb hts inX12 hown hK hP 0 mwd_o0 rfl 73 (by decide) fl421 (fun _ h9 => h9) rfl dX12_does_445 ?_
                          refine lv_iconst (v := 1) hx hb dX12_does_448 (by decide) ?_
                          refine lv_isub hx hb dX12_does_449 ?_
                          refine lv_topi (fun i_465 ei_465 => ?_)
                          have vi_465 : i_465.toInt = i_464.toInt - 1 := by have h9 := x_sub ei_465 (by omega) (by omega); omega
                          refine lv_iload_n hx hb dX12_does_450 rfl (lv_at hl 0 rfl) ?_
                          refine lv_bipush (v := 14) hx hb dX12_does_451 (by decide) ?_
                          refine lv_icmp_ne (tgt := 480) hx hb dX12_does_453 (by decide) (fun c_466 => ?_) (fun c_466 => ?_)
                          · exact absurd (by decide) c_466
                          · refine lv_aload_n hx hb dX12_does_456 rfl (lv_at hl 1 rfl) ?_
                            refine va_get (D := D) (ci := 11) (v := .ref (ad 72)) (C := RX12) (T := TX12) (N := 85) hx hb hts inX12 hown hK hP 0 mwd_o0 rfl 72 (by decide) fl160 (fun _ h9 => h9) rfl dX12_does_457 ?_
                            refine lv_aload_n hx hb dX12_does_460 rfl (lv_at hl 1 rfl) ?_
                            refine va_get (D := D) (ci := 11) (v := .int i_464) (C := RX12) (T := TX12) (N := 85) hx hb hts inX12 hown hK hP 0 mwd_o0 rfl 73 (by decide) fl421 (fun _ h9 => h9) rfl dX12_does_461 ?_
                            refine lv_iconst (v := 1) hx hb dX12_does_464 (by decide) ?_
                            refine lv_isub hx hb dX12_does_465 ?_
                            refine lv_topi (fun i_467 ei_467 => ?_)
                            have vi_467 : i_467.toInt = i_464.toInt - 1 := by have h9 := x_sub ei_467 (by omega) (by omega); omega
                            refine va_iald hx hb hK hP 49 2 mwd_a49 rfl (x_in (by omega) (by omega)) dX12_does_466 ?_
                            refine lv_topi (fun i_468 ei_468 => ?_)
                            have ei_468 : i_468 = (σ.2.2.1 72) (Int32.toNatClampNeg i_467) := ei_468
                            have gi_468 := PT_F hPT.2 ei_468 (x_cl (by omega))
                            refine lv_aload_n hx hb dX12_does_467 rfl (lv_at hl 1 rfl) ?_
                            refine va_get (D := D) (ci := 11) (v := .ref (ad 72)) (C := RX12) (T := TX12) (N := 85) hx hb hts inX12 hown hK hP 0 mwd_o0 rfl 72 (by decide) fl160 (fun _ h9 => h9) rfl dX12_does_468 ?_
                            refine lv_aload_n hx hb dX12_does_471 rfl (lv_at hl 1 rfl) ?_
                            refine va_get (D := D) (ci := 11) (v := .int i_464) (C := RX12) (T := TX12) (N := 85) hx hb hts inX12 hown hK hP 0 mwd_o0 rfl 73 (by decide) fl421 (fun _ h9 => h9) rfl dX12_does_472 ?_
                            refine va_iald hx hb hK hP 49 2 mwd_a49 rfl (x_in (by omega) (by omega)) dX12_does_475 ?_
                            refine lv_topi (fun i_469 ei_469 => ?_)
                            have ei_469 : i_469 = (σ.2.2.1 72) (Int32.toNatClampNeg i_464) := ei_469
                            have gi_469 := PT_F hPT ei_469 (x_cl (by simp only [List.length_cons]; omega))
                            refine lv_iand hx hb dX12_does_476 ?_
                            refine lv_topi (fun i_470 ei_470 => ?_)
                            refine lv_goto (tgt := 501) hx hb dX12_does_477 (by decide) ?_
                            refine va_iast hx hb hK hP hD hS 49 2 mwd_a49 rfl (x_in (by omega) (by omega)) dX12_does_501 (fun H locs hP hD hS => ?_)
                            obtain ⟨f_471, ef_471⟩ : ∃ z9 : Nat → Int32, z9 = (upd (σ.2.2.1 72) (Int32.toNatClampNeg i_465) i_470) := ⟨_, rfl⟩
                            have hP : va_P D vwCl (mwd y ad zw (tI (sI σ 73 i_464) 72 f_471)) H := by rw [ef_471]; exact x_trP hP mwd_s49
                            have hD : va_D A (mwd y ad zw (tI (sI σ 73 i_464) 72 f_471)) := by rw [ef_471]; exact x_trD hD mwd_s49
                            have pf_471 : PT (false :: T0) f_471 ((σ.2.2.1 62) 1).toInt := by rw [ef_471]; exact PT_pushF hPT.2.2 (x_cl (by omega)) (x_and01 ei_470 gi_468 gi_469)
                            refine lv_goto (tgt := 512) hx hb dX12_does_502 (by decide) ?_
                            refine lv_iload_n hx hb dX12_does_512 rfl (lv_at hl 3 rfl) ?_
                            refine lv_iconst (v := 1) hx hb dX12_does_513 (by decide) ?_
                            refine lv_iadd hx hb dX12_does_514 ?_
                            refine lv_topi (fun i_472 ei_472 => ?_)
                            have vi_472 : i_472.toInt = k.toInt + 1 := by have h9 := x_add ei_472 (by omega) (by omega); omega
                            have hP : va_P D vwCl (mwd y ad zw (tI (tI (tI (tI (tI (tI (tI (tJ (tJ (sJ (sJ (sI (sJ (sJ (sI (tI (tI (tI (tI (sI σ 73 i_464) 72 f_471) 63 (σ.2.2.1 63)) 67 (σ.2.2.1 67)) 66 (σ.2.2.1 66)) 44 (σ.1 44)) 42 (σ.2.1 42)) 43 (σ.2.1 43)) 68 (σ.1 68)) 69 (σ.2.1 69)) 70 (σ.2.1 70)) 57 (σ.2.2.2 57)) 58 (σ.2.2.2 58)) 59 (σ.2.2.1 59)) 60 (σ.2.2.1 60)) 61 (σ.2.2.1 61)) 62 (σ.2.2.1 62)) 71 (σ.2.2.1 71)) 64 (σ.2.2.1 64)) 65 (σ.2.2.1 65))) H := hP
                            have hD : va_D A (mwd y ad zw (tI (tI (tI (tI (tI (tI (tI (tJ (tJ (sJ (sJ (sI (sJ (sJ (sI (tI (tI (tI (tI (sI σ 73 i_464) 72 f_471) 63 (σ.2.2.1 63)) 67 (σ.2.2.1 67)) 66 (σ.2.2.1 66)) 44 (σ.1 44)) 42 (σ.2.1 42)) 43 (σ.2.1 43)) 68 (σ.1 68)) 69 (σ.2.1 69)) 70 (σ.2.1 70)) 57 (σ.2.2.2 57)) 58 (σ.2.2.2 58)) 59 (σ.2.2.1 59)) 60 (σ.2.2.1 60)) 61 (σ.2.2.1 61)) 62 (σ.2.2.1 62)) 71 (σ.2.2.1 71)) 64 (σ.2.2.1 64)) 65 (σ.2.2.1 65))) := hD
                            exact x_iretW (v := i_472) (u := (i_464, f_471, (σ.2.2.1 63), (σ.2.2.1 67), (σ.2.2.1 66), (σ.1 44), (σ.2.1 42), (σ.2.1 43), (σ.1 68), (σ.2.1 69), (σ.2.1 70), (σ.2.2.2 57), (σ.2.2.2 58), (σ.2.2.1 59), (σ.2.2.1 60), (σ.2.2.1 61), (σ.2.2.1 62), (σ.2.2.1 71), (σ.2.2.1 64), (σ.2.2.1 65))) hx hb hr hQ (by (try dsimp only); exact ⟨⟨Or.inr ⟨(i + 1), (false :: T0), b1, (by push_cast; omega), hn, (by (try simp only [List.length_cons]); omega), pf_471, hh, (MU_fwd hb1 (by omega)), rfl⟩, hop, by omega, by omega, rfl⟩, hB57, hB58, hB62, hB63, hB64, hB65⟩) hP hD hK hS dX12_does_515 hlocks
                        · exact absurd (by decide) c_463
                      · exact absurd c_462 (by decide)
                    · exact absurd (by decide) c_461
                  · exact absurd (by decide) c_460
                · exact absurd (by decide) c_459
              · exact absurd (by decide) c_458
            · exact absurd c_457 (by decide)
          · exact absurd c_456 (by decide)
        · exact absurd c_455 (by decide)
      · exact absurd (by decide) c_454
    · refine lv_istore_n (lv' := [(3, .int 15), (0, .ref (ad 1)), (1, .int 1), (2, .int k)]) hx hb dX12_does_10 rfl hl (by decide) rfl (fun ls hl => ?_)
      refine lv_iload_n hx hb dX12_does_11 rfl (lv_at hl 0 rfl) ?_
      refine lv_sipush (v := 1000) hx hb dX12_does_12 (by decide) ?_
      refine lv_icmp_lt (tgt := 54) hx hb dX12_does_15 (by decide) (fun c_473 => ?_) (fun c_473 => ?_)
      · refine lv_iload_n hx hb dX12_does_54 rfl (lv_at hl 0 rfl) ?_
        refine lv_sipush (v := 502) hx hb dX12_does_55 (by decide) ?_
        refine lv_icmp_ne (tgt := 74) hx hb dX12_does_58 (by decide) (fun c_474 => ?_) (fun c_474 => ?_)
        · refine lv_iload_n hx hb dX12_does_74 rfl (lv_at hl 0 rfl) ?_
          refine lv_sipush (v := 501) hx hb dX12_does_75 (by decide) ?_
          refine lv_icmp_ne (tgt := 122) hx hb dX12_does_78 (by decide) (fun c_475 => ?_) (fun c_475 => ?_)
          · refine lv_iload_n hx hb dX12_does_122 rfl (lv_at hl 0 rfl) ?_
            refine lv_sipush (v := 500) hx hb dX12_does_123 (by decide) ?_
            refine lv_icmp_ne (tgt := 197) hx hb dX12_does_126 (by decide) (fun c_476 => ?_) (fun c_476 => ?_)
            · refine lv_iload_n hx hb dX12_does_197 rfl (lv_at hl 0 rfl) ?_
              refine lv_sipush (v := 400) hx hb dX12_does_198 (by decide) ?_
              refine lv_icmp_lt (tgt := 251) hx hb dX12_does_201 (by decide) (fun c_477 => ?_) (fun c_477 => ?_)
              · refine lv_iload_n hx hb dX12_does_251 rfl (lv_at hl 0 rfl) ?_
                refine lv_sipush (v := 300) hx hb dX12_does_252 (by decide) ?_
                refine lv_icmp_lt (tgt := 290) hx hb dX12_does_255 (by decide) (fun c_478 => ?_) (fun c_478 => ?_)
                · refine lv_iload_n hx hb dX12_does_290 rfl (lv_at hl 0 rfl) ?_
                  refine lv_sipush (v := 200) hx hb dX12_does_291 (by decide) ?_
                  refine lv_icmp_lt (tgt := 348) hx hb dX12_does_294 (by decide) (fun c_479 => ?_) (fun c_479 => ?_)
                  · refine lv_iload_n hx hb dX12_does_348 rfl (lv_at hl 0 rfl) ?_
                    refine lv_bipush (v := 100) hx hb dX12_does_349 (by decide) ?_
                    refine lv_icmp_lt (tgt := 385) hx hb dX12_does_351 (by decide) (fun c_480 => ?_) (fun c_480 => ?_)
                    · refine lv_iload_n hx hb dX12_does_385 rfl (lv_at hl 0 rfl) ?_
                      refine lv_bipush (v := 16) hx hb dX12_does_386 (by decide) ?_
                      refine lv_icmp_ne (tgt := 418) hx hb dX12_does_388 (by decide) (fun c_481 => ?_) (fun c_481 => ?_)
                      · refine lv_iload_n hx hb dX12_does_418 rfl (lv_at hl 0 rfl) ?_
                        refine lv_bipush (v := 14) hx hb dX12_does_419 (by decide) ?_
                        refine lv_icmp_eq (tgt := 430) hx hb dX12_does_421 (by decide) (fun c_482 => ?_) (fun c_482 => ?_)
                        · exact absurd c_482 (by decide)
                        · refine lv_iload_n hx hb dX12_does_424 rfl (lv_at hl 0 rfl) ?_
                          refine lv_bipush (v := 15) hx hb dX12_does_425 (by decide) ?_
                          refine lv_icmp_ne (tgt := 505) hx hb dX12_does_427 (by decide) (fun c_483 => ?_) (fun c_483 => ?_)
                          · exact absurd (by decide) c_483
                          · refine lv_aload_n hx hb dX12_does_430 rfl (lv_at hl 1 rfl) ?_
                            refine lv_dup hx hb dX12_does_431 rfl ?_
                            refine va_get (D := D) (ci := 11) (v := .int (σ.1 73)) (C := RX12) (T := TX12) (N := 85) hx hb hts inX12 hown hK hP 0 mwd_o0 rfl 73 (by decide) fl421 (fun _ h9 => h9) rfl dX12_does_432 ?_
                            refine lv_iconst (v := 1) hx hb dX12_does_435 (by decide) ?_
                            refine lv_isub hx hb dX12_does_436 ?_
                            refine lv_topi (fun i_484 ei_484 => ?_)
                            have vi_484 : i_484.toInt = (σ.1 73).toInt - 1 := by have h9 := x_sub ei_484 (by omega) (by omega); omega
                            refine va_put (D := D) (ci := 11) (v := .int i_484) (ty := .int) (C := RX12) (T := TX12) (N := 85) hx hb hts inX12 tyX12 tyX12_ok nmX12 hown hK hP hD hS 0 mwd_o0 rfl 73 (by decide) fl421 (fun _ h9 => h9) rfl (by decide +kernel) rfl rfl (Nat.le_of_ble_eq_true rfl) dX12_does_437 (fun H locs hP hD hS => ?_)
                            have hP : va_P D vwCl (mwd y ad zw (sI σ 73 i_484)) H := x_trP hP mwd_p0_73
                            have hD : va_D A (mwd y ad zw (sI σ 73 i_484)) := x_trD hD mwd_p0_73
                            refine lv_aload_n hx hb dX12_does_440 rfl (lv_at hl 1 rfl) ?_
                            refine va_get (D := D) (ci := 11) (v := .ref (ad 72)) (C := RX12) (T := TX12) (N := 85) hx hb hts inX12 hown hK hP 0 mwd_o0 rfl 72 (by decide) fl160 (fun _ h9 => h9) rfl dX12_does_441 ?_
                            refine lv_aload_n hx hb dX12_does_444 rfl (lv_at hl 1 rfl) ?_
                            refine va_get (D := D) (ci := 11) (v := .int i_484) (C := RX12) (T := TX12) (N := 85) hx hb hts inX12 hown hK hP 0 mwd_o0 rfl 73 (by decide) fl421 (fun _ h9 => h9) rfl dX12_does_445 ?_
                            refine lv_iconst (v := 1) hx hb dX12_does_448 (by decide) ?_
                            refine lv_isub hx hb dX12_does_449 ?_
                            refine lv_topi (fun i_485 ei_485 => ?_)
                            have vi_485 : i_485.toInt = i_484.toInt - 1 := by have h9 := x_sub ei_485 (by omega) (by omega); omega
                            refine lv_iload_n hx hb dX12_does_450 rfl (lv_at hl 0 rfl) ?_
                            refine lv_bipush (v := 14) hx hb dX12_does_451 (by decide) ?_
                            refine lv_icmp_ne (tgt := 480) hx hb dX12_does_453 (by decide) (fun c_486 => ?_) (fun c_486 => ?_)
                            · refine lv_aload_n hx hb dX12_does_480 rfl (lv_at hl 1 rfl) ?_
                              refine va_get (D := D) (ci := 11) (v := .ref (ad 72)) (C := RX12) (T := TX12) (N := 85) hx hb hts inX12 hown hK hP 0 mwd_o0 rfl 72 (by decide) fl160 (fun _ h9 => h9) rfl dX12_does_481 ?_
                              refine lv_aload_n hx hb dX12_does_484 rfl (lv_at hl 1 rfl) ?_
                              refine va_get (D := D) (ci := 11) (v := .int i_484) (C := RX12) (T := TX12) (N := 85) hx hb hts inX12 hown hK hP 0 mwd_o0 rfl 73 (by decide) fl421 (fun _ h9 => h9) rfl dX12_does_485 ?_
                              refine lv_iconst (v := 1) hx hb dX12_does_488 (by decide) ?_
                              refine lv_isub hx hb dX12_does_489 ?_
                              refine lv_topi (fun i_487 ei_487 => ?_)
                              have vi_487 : i_487.toInt = i_484.toInt - 1 := by have h9 := x_sub ei_487 (by omega) (by omega); omega
                              refine va_iald hx hb hK hP 49 2 mwd_a49 rfl (x_in (by omega) (by omega)) dX12_does_490 ?_
                              refine lv_topi (fun i_488 ei_488 => ?_)
                              have ei_488 : i_488 = (σ.2.2.1 72) (Int32.toNatClampNeg i_487) := ei_488
                              have gi_488 := PT_F hPT.2 ei_488 (x_cl (by omega))
                              refine lv_aload_n hx hb dX12_does_491 rfl (lv_at hl 1 rfl) ?_
                              refine va_get (D := D) (ci := 11) (v := .ref (ad 72)) (C := RX12) (T := TX12) (N := 85) hx hb hts inX12 hown hK hP 0 mwd_o0 rfl 72 (by decide) fl160 (fun _ h9 => h9) rfl dX12_does_492 ?_
                              refine lv_aload_n hx hb dX12_does_495 rfl (lv_at hl 1 rfl) ?_
                              refine va_get (D := D) (ci := 11) (v := .int i_484) (C := RX12) (T := TX12) (N := 85) hx hb hts inX12 hown hK hP 0 mwd_o0 rfl 73 (by decide) fl421 (fun _ h9 => h9) rfl dX12_does_496 ?_
                              refine va_iald hx hb hK hP 49 2 mwd_a49 rfl (x_in (by omega) (by omega)) dX12_does_499 ?_
                              refine lv_topi (fun i_489 ei_489 => ?_)
                              have ei_489 : i_489 = (σ.2.2.1 72) (Int32.toNatClampNeg i_484) := ei_489
                              have gi_489 := PT_F hPT ei_489 (x_cl (by simp only [List.length_cons]; omega))
                              refine lv_ior hx hb dX12_does_500 ?_
                              refine lv_topi (fun i_490 ei_490 => ?_)
                              refine va_iast hx hb hK hP hD hS 49 2 mwd_a49 rfl (x_in (by omega) (by omega)) dX12_does_501 (fun H locs hP hD hS => ?_)
                              obtain ⟨f_491, ef_491⟩ : ∃ z9 : Nat → Int32, z9 = (upd (σ.2.2.1 72) (Int32.toNatClampNeg i_485) i_490) := ⟨_, rfl⟩
                              have hP : va_P D vwCl (mwd y ad zw (tI (sI σ 73 i_484) 72 f_491)) H := by rw [ef_491]; exact x_trP hP mwd_s49
                              have hD : va_D A (mwd y ad zw (tI (sI σ 73 i_484) 72 f_491)) := by rw [ef_491]; exact x_trD hD mwd_s49
                              have pf_491 : PT (false :: T0) f_491 ((σ.2.2.1 62) 1).toInt := by rw [ef_491]; exact PT_pushF hPT.2.2 (x_cl (by omega)) (x_or01 ei_490 gi_488 gi_489)
                              refine lv_goto (tgt := 512) hx hb dX12_does_502 (by decide) ?_
                              refine lv_iload_n hx hb dX12_does_512 rfl (lv_at hl 3 rfl) ?_
                              refine lv_iconst (v := 1) hx hb dX12_does_513 (by decide) ?_
                              refine lv_iadd hx hb dX12_does_514 ?_
                              refine lv_topi (fun i_492 ei_492 => ?_)
                              have vi_492 : i_492.toInt = k.toInt + 1 := by have h9 := x_add ei_492 (by omega) (by omega); omega
                              have hP : va_P D vwCl (mwd y ad zw (tI (tI (tI (tI (tI (tI (tI (tJ (tJ (sJ (sJ (sI (sJ (sJ (sI (tI (tI (tI (tI (sI σ 73 i_484) 72 f_491) 63 (σ.2.2.1 63)) 67 (σ.2.2.1 67)) 66 (σ.2.2.1 66)) 44 (σ.1 44)) 42 (σ.2.1 42)) 43 (σ.2.1 43)) 68 (σ.1 68)) 69 (σ.2.1 69)) 70 (σ.2.1 70)) 57 (σ.2.2.2 57)) 58 (σ.2.2.2 58)) 59 (σ.2.2.1 59)) 60 (σ.2.2.1 60)) 61 (σ.2.2.1 61)) 62 (σ.2.2.1 62)) 71 (σ.2.2.1 71)) 64 (σ.2.2.1 64)) 65 (σ.2.2.1 65))) H := hP
                              have hD : va_D A (mwd y ad zw (tI (tI (tI (tI (tI (tI (tI (tJ (tJ (sJ (sJ (sI (sJ (sJ (sI (tI (tI (tI (tI (sI σ 73 i_484) 72 f_491) 63 (σ.2.2.1 63)) 67 (σ.2.2.1 67)) 66 (σ.2.2.1 66)) 44 (σ.1 44)) 42 (σ.2.1 42)) 43 (σ.2.1 43)) 68 (σ.1 68)) 69 (σ.2.1 69)) 70 (σ.2.1 70)) 57 (σ.2.2.2 57)) 58 (σ.2.2.2 58)) 59 (σ.2.2.1 59)) 60 (σ.2.2.1 60)) 61 (σ.2.2.1 61)) 62 (σ.2.2.1 62)) 71 (σ.2.2.1 71)) 64 (σ.2.2.1 64)) 65 (σ.2.2.1 65))) := hD
                              exact x_iretW (v := i_492) (u := (i_484, f_491, (σ.2.2.1 63), (σ.2.2.1 67), (σ.2.2.1 66), (σ.1 44), (σ.2.1 42), (σ.2.1 43), (σ.1 68), (σ.2.1 69), (σ.2.1 70), (σ.2.2.2 57), (σ.2.2.2 58), (σ.2.2.1 59), (σ.2.2.1 60), (σ.2.2.1 61), (σ.2.2.1 62), (σ.2.2.1 71), (σ.2.2.1 64), (σ.2.2.1 65))) hx hb hr hQ (by (try dsimp only); exact ⟨⟨Or.inr ⟨(i + 1), (false :: T0), b1, (by push_cast; omega), hn, (by (try simp only [List.length_cons]); omega), pf_491, hh, (MU_fwd hb1 (by omega)), rfl⟩, hop, by omega, by omega, rfl⟩, hB57, hB58, hB62, hB63, hB64, hB65⟩) hP hD hK hS dX12_does_515 hlocks
                            · exact absurd c_486 (by decide)
                      · exact absurd c_481 (by decide)
                    · exact absurd (by decide) c_480
                  · exact absurd (by decide) c_479
                · exact absurd (by decide) c_478
              · exact absurd (by decide) c_477
            · exact absurd c_476 (by decide)
          · exact absurd c_475 (by decide)
        · exact absurd c_474 (by decide)
      · exact absurd (by decide) c_473
  · simp only [List.length_cons] at hp hLn
    rcases (show i_2 = 16 by simp only [x_eq, Int32.reduceToInt]; omega) with rfl
    refine lv_istore_n (lv' := [(3, .int 16), (0, .ref (ad 1)), (1, .int 1), (2, .int k)]) hx hb dX12_does_10 rfl hl (by decide) rfl (fun ls hl => ?_)
    refine lv_iload_n hx hb dX12_does_11 rfl (lv_at hl 0 rfl) ?_
    refine lv_sipush (v := 1000) hx hb dX12_does_12 (by decide) ?_
    refine lv_icmp_lt (tgt := 54) hx hb dX12_does_15 (by decide) (fun c_493 => ?_) (fun c_493 => ?_)
    · refine lv_iload_n hx hb dX12_does_54 rfl (lv_at hl 0 rfl) ?_
      refine lv_sipush (v := 502) hx hb dX12_does_55 (by decide) ?_
      refine lv_icmp_ne (tgt := 74) hx hb dX12_does_58 (by decide) (fun c_494 => ?_) (fun c_494 => ?_)
      · refine lv_iload_n hx hb dX12_does_74 rfl (lv_at hl 0 rfl) ?_
        refine lv_sipush (v := 501) hx hb dX12_does_75 (by decide) ?_
        refine lv_icmp_ne (tgt := 122) hx hb dX12_does_78 (by decide) (fun c_495 => ?_) (fun c_495 => ?_)
        · refine lv_iload_n hx hb dX12_does_122 rfl (lv_at hl 0 rfl) ?_
          refine lv_sipush (v := 500) hx hb dX12_does_123 (by decide) ?_
          refine lv_icmp_ne (tgt := 197) hx hb dX12_does_126 (by decide) (fun c_496 => ?_) (fun c_496 => ?_)
          · refine lv_iload_n hx hb dX12_does_197 rfl (lv_at hl 0 rfl) ?_
            refine lv_sipush (v := 400) hx hb dX12_does_198 (by decide) ?_
            refine lv_icmp_lt (tgt := 251) hx hb dX12_does_201 (by decide) (fun c_497 => ?_) (fun c_497 => ?_)
            · refine lv_iload_n hx hb dX12_does_251 rfl (lv_at hl 0 rfl) ?_
              refine lv_sipush (v := 300) hx hb dX12_does_252 (by decide) ?_
              refine lv_icmp_lt (tgt := 290) hx hb dX12_does_255 (by decide) (fun c_498 => ?_) (fun c_498 => ?_)
              · refine lv_iload_n hx hb dX12_does_290 rfl (lv_at hl 0 rfl) ?_
                refine lv_sipush (v := 200) hx hb dX12_does_291 (by decide) ?_
                refine lv_icmp_lt (tgt := 348) hx hb dX12_does_294 (by decide) (fun c_499 => ?_) (fun c_499 => ?_)
                · refine lv_iload_n hx hb dX12_does_348 rfl (lv_at hl 0 rfl) ?_
                  refine lv_bipush (v := 100) hx hb dX12_does_349 (by decide) ?_
                  refine lv_icmp_lt (tgt := 385) hx hb dX12_does_351 (by decide) (fun c_500 => ?_) (fun c_500 => ?_)
                  · refine lv_iload_n hx hb dX12_does_385 rfl (lv_at hl 0 rfl) ?_
                    refine lv_bipush (v := 16) hx hb dX12_does_386 (by decide) ?_
                    refine lv_icmp_ne (tgt := 418) hx hb dX12_does_388 (by decide) (fun c_501 => ?_) (fun c_501 => ?_)
                    · exact absurd (by decide) c_501
                    · refine lv_aload_n hx hb dX12_does_391 rfl (lv_at hl 1 rfl) ?_
                      refine va_get (D := D) (ci := 11) (v := .ref (ad 72)) (C := RX12) (T := TX12) (N := 85) hx hb hts inX12 hown hK hP 0 mwd_o0 rfl 72 (by decide) fl160 (fun _ h9 => h9) rfl dX12_does_392 ?_
                      refine lv_aload_n hx hb dX12_does_395 rfl (lv_at hl 1 rfl) ?_
                      refine va_get (D := D) (ci := 11) (v := .int (σ.1 73)) (C := RX12) (T := TX12) (N := 85) hx hb hts inX12 hown hK hP 0 mwd_o0 rfl 73 (by decide) fl421 (fun _ h9 => h9) rfl dX12_does_396 ?_
                      refine lv_iconst (v := 1) hx hb dX12_does_399 (by decide) ?_
                      refine lv_isub hx hb dX12_does_400 ?_
                      refine lv_topi (fun i_502 ei_502 => ?_)
                      have vi_502 : i_502.toInt = (σ.1 73).toInt - 1 := by have h9 := x_sub ei_502 (by omega) (by omega); omega
                      refine lv_iconst (v := 1) hx hb dX12_does_401 (by decide) ?_
                      refine lv_aload_n hx hb dX12_does_402 rfl (lv_at hl 1 rfl) ?_
                      refine va_get (D := D) (ci := 11) (v := .ref (ad 72)) (C := RX12) (T := TX12) (N := 85) hx hb hts inX12 hown hK hP 0 mwd_o0 rfl 72 (by decide) fl160 (fun _ h9 => h9) rfl dX12_does_403 ?_
                      refine lv_aload_n hx hb dX12_does_406 rfl (lv_at hl 1 rfl) ?_
                      refine va_get (D := D) (ci := 11) (v := .int (σ.1 73)) (C := RX12) (T := TX12) (N := 85) hx hb hts inX12 hown hK hP 0 mwd_o0 rfl 73 (by decide) fl421 (fun _ h9 => h9) rfl dX12_does_407 ?_
                      refine lv_iconst (v := 1) hx hb dX12_does_410 (by decide) ?_
                      refine lv_isub hx hb dX12_does_411 ?_
                      refine lv_topi (fun i_503 ei_503 => ?_)
                      have vi_503 : i_503.toInt = (σ.1 73).toInt - 1 := by have h9 := x_sub ei_503 (by omega) (by omega); omega
                      refine va_iald hx hb hK hP 49 2 mwd_a49 rfl (x_in (by omega) (by omega)) dX12_does_412 ?_
                      refine lv_topi (fun i_504 ei_504 => ?_)
                      have ei_504 : i_504 = (σ.2.2.1 72) (Int32.toNatClampNeg i_503) := ei_504
                      have gi_504 := PT_F hPT ei_504 (x_cl (by omega))
                      refine lv_isub hx hb dX12_does_413 ?_
                      refine lv_topi (fun i_505 ei_505 => ?_)
                      have vi_505 : i_505.toInt = 1 - i_504.toInt := by have h9 := x_sub ei_505 (by omega) (by omega); omega
                      refine va_iast hx hb hK hP hD hS 49 2 mwd_a49 rfl (x_in (by omega) (by omega)) dX12_does_414 (fun H locs hP hD hS => ?_)
                      obtain ⟨f_506, ef_506⟩ : ∃ z9 : Nat → Int32, z9 = (upd (σ.2.2.1 72) (Int32.toNatClampNeg i_502) i_505) := ⟨_, rfl⟩
                      have hP : va_P D vwCl (mwd y ad zw (tI σ 72 f_506)) H := by rw [ef_506]; exact x_trP hP mwd_s49
                      have hD : va_D A (mwd y ad zw (tI σ 72 f_506)) := by rw [ef_506]; exact x_trD hD mwd_s49
                      have pf_506 : PT (false :: T0) f_506 ((σ.2.2.1 62) 1).toInt := by rw [ef_506]; exact PT_pushF hPT.2 (x_cl (by omega)) (by omega)
                      refine lv_goto (tgt := 512) hx hb dX12_does_415 (by decide) ?_
                      refine lv_iload_n hx hb dX12_does_512 rfl (lv_at hl 3 rfl) ?_
                      refine lv_iconst (v := 1) hx hb dX12_does_513 (by decide) ?_
                      refine lv_iadd hx hb dX12_does_514 ?_
                      refine lv_topi (fun i_507 ei_507 => ?_)
                      have vi_507 : i_507.toInt = k.toInt + 1 := by have h9 := x_add ei_507 (by omega) (by omega); omega
                      have hP : va_P D vwCl (mwd y ad zw (tI (tI (tI (tI (tI (tI (tI (tJ (tJ (sJ (sJ (sI (sJ (sJ (sI (tI (tI (tI (tI (sI σ 73 (σ.1 73)) 72 f_506) 63 (σ.2.2.1 63)) 67 (σ.2.2.1 67)) 66 (σ.2.2.1 66)) 44 (σ.1 44)) 42 (σ.2.1 42)) 43 (σ.2.1 43)) 68 (σ.1 68)) 69 (σ.2.1 69)) 70 (σ.2.1 70)) 57 (σ.2.2.2 57)) 58 (σ.2.2.2 58)) 59 (σ.2.2.1 59)) 60 (σ.2.2.1 60)) 61 (σ.2.2.1 61)) 62 (σ.2.2.1 62)) 71 (σ.2.2.1 71)) 64 (σ.2.2.1 64)) 65 (σ.2.2.1 65))) H := hP
                      have hD : va_D A (mwd y ad zw (tI (tI (tI (tI (tI (tI (tI (tJ (tJ (sJ (sJ (sI (sJ (sJ (sI (tI (tI (tI (tI (sI σ 73 (σ.1 73)) 72 f_506) 63 (σ.2.2.1 63)) 67 (σ.2.2.1 67)) 66 (σ.2.2.1 66)) 44 (σ.1 44)) 42 (σ.2.1 42)) 43 (σ.2.1 43)) 68 (σ.1 68)) 69 (σ.2.1 69)) 70 (σ.2.1 70)) 57 (σ.2.2.2 57)) 58 (σ.2.2.2 58)) 59 (σ.2.2.1 59)) 60 (σ.2.2.1 60)) 61 (σ.2.2.1 61)) 62 (σ.2.2.1 62)) 71 (σ.2.2.1 71)) 64 (σ.2.2.1 64)) 65 (σ.2.2.1 65))) := hD
                      exact x_iretW (v := i_507) (u := ((σ.1 73), f_506, (σ.2.2.1 63), (σ.2.2.1 67), (σ.2.2.1 66), (σ.1 44), (σ.2.1 42), (σ.2.1 43), (σ.1 68), (σ.2.1 69), (σ.2.1 70), (σ.2.2.2 57), (σ.2.2.2 58), (σ.2.2.1 59), (σ.2.2.1 60), (σ.2.2.1 61), (σ.2.2.1 62), (σ.2.2.1 71), (σ.2.2.1 64), (σ.2.2.1 65))) hx hb hr hQ (by (try dsimp only); exact ⟨⟨Or.inr ⟨(i + 1), (false :: T0), b1, (by push_cast; omega), hn, (by (try simp only [List.length_cons]); omega), pf_506, hh, (MU_fwd hb1 (by omega)), rfl⟩, hop, by omega, by omega, rfl⟩, hB57, hB58, hB62, hB63, hB64, hB65⟩) hP hD hK hS dX12_does_515 hlocks
                  · exact absurd (by decide) c_500
                · exact absurd (by decide) c_499
              · exact absurd (by decide) c_498
            · exact absurd (by decide) c_497
          · exact absurd c_496 (by decide)
        · exact absurd c_495 (by decide)
      · exact absurd c_494 (by decide)
    · exact absurd (by decide) c_493

