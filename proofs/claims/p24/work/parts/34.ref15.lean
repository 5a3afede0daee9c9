theorem dX12_mark_0 : decode cX12_mark 0 = .ok (.aload_n 0, 1) := by decide +kernel
theorem dX12_mark_1 : decode cX12_mark 1 = .ok (.getfield 263, 3) := by decide +kernel
theorem dX12_mark_4 : decode cX12_mark 4 = .ok (.iconst 1, 1) := by decide +kernel
theorem dX12_mark_5 : decode cX12_mark 5 = .ok (.isub, 1) := by decide +kernel
theorem dX12_mark_6 : decode cX12_mark 6 = .ok (.istore_n 1, 1) := by decide +kernel
theorem dX12_mark_7 : decode cX12_mark 7 = .ok (.iload_n 1, 1) := by decide +kernel
theorem dX12_mark_8 : decode cX12_mark 8 = .ok (.aload_n 0, 1) := by decide +kernel
theorem dX12_mark_9 : decode cX12_mark 9 = .ok (.getfield 270, 3) := by decide +kernel
theorem dX12_mark_12 : decode cX12_mark 12 = .ok (.if_icmp .lt 22, 3) := by decide +kernel
theorem dX12_mark_15 : decode cX12_mark 15 = .ok (.aload_n 0, 1) := by decide +kernel
theorem dX12_mark_16 : decode cX12_mark 16 = .ok (.aload_n 0, 1) := by decide +kernel
theorem dX12_mark_17 : decode cX12_mark 17 = .ok (.getfield 75, 3) := by decide +kernel
theorem dX12_mark_20 : decode cX12_mark 20 = .ok (.iload_n 1, 1) := by decide +kernel
theorem dX12_mark_21 : decode cX12_mark 21 = .ok (.iaload, 1) := by decide +kernel
theorem dX12_mark_22 : decode cX12_mark 22 = .ok (.invokevirtual 273, 3) := by decide +kernel
theorem dX12_mark_25 : decode cX12_mark 25 = .ok (.ifCond .ne 9, 3) := by decide +kernel
theorem dX12_mark_28 : decode cX12_mark 28 = .ok (.iinc 1 (-1), 3) := by decide +kernel
theorem dX12_mark_31 : decode cX12_mark 31 = .ok (.goto (-24), 3) := by decide +kernel
theorem dX12_mark_34 : decode cX12_mark 34 = .ok (.iload_n 1, 1) := by decide +kernel
theorem dX12_mark_35 : decode cX12_mark 35 = .ok (.aload_n 0, 1) := by decide +kernel
theorem dX12_mark_36 : decode cX12_mark 36 = .ok (.getfield 270, 3) := by decide +kernel
theorem dX12_mark_39 : decode cX12_mark 39 = .ok (.if_icmp .lt 12, 3) := by decide +kernel
theorem dX12_mark_42 : decode cX12_mark 42 = .ok (.aload_n 0, 1) := by decide +kernel
theorem dX12_mark_43 : decode cX12_mark 43 = .ok (.getfield 75, 3) := by decide +kernel
theorem dX12_mark_46 : decode cX12_mark 46 = .ok (.iload_n 1, 1) := by decide +kernel
theorem dX12_mark_47 : decode cX12_mark 47 = .ok (.iaload, 1) := by decide +kernel
theorem dX12_mark_48 : decode cX12_mark 48 = .ok (.goto 4, 3) := by decide +kernel
theorem dX12_mark_51 : decode cX12_mark 51 = .ok (.iconst (-1), 1) := by decide +kernel
theorem dX12_mark_52 : decode cX12_mark 52 = .ok (.ireturn, 1) := by decide +kernel
theorem dX12_dropsToMark_0 : decode cX12_dropsToMark 0 = .ok (.aload_n 0, 1) := by decide +kernel
theorem dX12_dropsToMark_1 : decode cX12_dropsToMark 1 = .ok (.getfield 263, 3) := by decide +kernel
theorem dX12_dropsToMark_4 : decode cX12_dropsToMark 4 = .ok (.aload_n 0, 1) := by decide +kernel
theorem dX12_dropsToMark_5 : decode cX12_dropsToMark 5 = .ok (.getfield 270, 3) := by decide +kernel
theorem dX12_dropsToMark_8 : decode cX12_dropsToMark 8 = .ok (.if_icmp .le 28, 3) := by decide +kernel
theorem dX12_dropsToMark_11 : decode cX12_dropsToMark 11 = .ok (.aload_n 0, 1) := by decide +kernel
theorem dX12_dropsToMark_12 : decode cX12_dropsToMark 12 = .ok (.aload_n 0, 1) := by decide +kernel
theorem dX12_dropsToMark_13 : decode cX12_dropsToMark 13 = .ok (.getfield 75, 3) := by decide +kernel
theorem dX12_dropsToMark_16 : decode cX12_dropsToMark 16 = .ok (.aload_n 0, 1) := by decide +kernel
theorem dX12_dropsToMark_17 : decode cX12_dropsToMark 17 = .ok (.getfield 263, 3) := by decide +kernel
theorem dX12_dropsToMark_20 : decode cX12_dropsToMark 20 = .ok (.iconst 1, 1) := by decide +kernel
theorem dX12_dropsToMark_21 : decode cX12_dropsToMark 21 = .ok (.isub, 1) := by decide +kernel
theorem dX12_dropsToMark_22 : decode cX12_dropsToMark 22 = .ok (.iaload, 1) := by decide +kernel
theorem dX12_dropsToMark_23 : decode cX12_dropsToMark 23 = .ok (.invokevirtual 273, 3) := by decide +kernel
theorem dX12_dropsToMark_26 : decode cX12_dropsToMark 26 = .ok (.ifCond .ne 10, 3) := by decide +kernel
theorem dX12_dropsToMark_29 : decode cX12_dropsToMark 29 = .ok (.aload_n 0, 1) := by decide +kernel
theorem dX12_dropsToMark_30 : decode cX12_dropsToMark 30 = .ok (.invokevirtual 276, 3) := by decide +kernel
theorem dX12_dropsToMark_33 : decode cX12_dropsToMark 33 = .ok (.goto (-33), 3) := by decide +kernel
theorem dX12_dropsToMark_36 : decode cX12_dropsToMark 36 = .ok (.return_, 1) := by decide +kernel
theorem dX12_closes_0 : decode cX12_closes 0 = .ok (.aload_n 0, 1) := by decide +kernel
theorem dX12_closes_1 : decode cX12_closes 1 = .ok (.invokevirtual 203, 3) := by decide +kernel
theorem dX12_closes_4 : decode cX12_closes 4 = .ok (.istore_n 1, 1) := by decide +kernel
theorem dX12_closes_5 : decode cX12_closes 5 = .ok (.aload_n 0, 1) := by decide +kernel
theorem dX12_closes_6 : decode cX12_closes 6 = .ok (.invokevirtual 299, 3) := by decide +kernel
theorem dX12_closes_9 : decode cX12_closes 9 = .ok (.istore_n 2, 1) := by decide +kernel
theorem dX12_closes_10 : decode cX12_closes 10 = .ok (.iload_n 1, 1) := by decide +kernel
theorem dX12_closes_11 : decode cX12_closes 11 = .ok (.bipush 41, 2) := by decide +kernel
theorem dX12_closes_13 : decode cX12_closes 13 = .ok (.if_icmp .ne 27, 3) := by decide +kernel
theorem dX12_closes_16 : decode cX12_closes 16 = .ok (.iload_n 2, 1) := by decide +kernel
theorem dX12_closes_17 : decode cX12_closes 17 = .ok (.bipush 20, 2) := by decide +kernel
theorem dX12_closes_19 : decode cX12_closes 19 = .ok (.if_icmp .eq 33, 3) := by decide +kernel
theorem dX12_closes_22 : decode cX12_closes 22 = .ok (.iload_n 2, 1) := by decide +kernel
theorem dX12_closes_23 : decode cX12_closes 23 = .ok (.bipush 23, 2) := by decide +kernel
theorem dX12_closes_25 : decode cX12_closes 25 = .ok (.if_icmp .eq 27, 3) := by decide +kernel
theorem dX12_closes_28 : decode cX12_closes 28 = .ok (.iload_n 2, 1) := by decide +kernel
theorem dX12_closes_29 : decode cX12_closes 29 = .ok (.bipush 24, 2) := by decide +kernel
theorem dX12_closes_31 : decode cX12_closes 31 = .ok (.if_icmp .eq 21, 3) := by decide +kernel
theorem dX12_closes_34 : decode cX12_closes 34 = .ok (.iload_n 2, 1) := by decide +kernel
theorem dX12_closes_35 : decode cX12_closes 35 = .ok (.bipush 25, 2) := by decide +kernel
theorem dX12_closes_37 : decode cX12_closes 37 = .ok (.if_icmp .eq 15, 3) := by decide +kernel
theorem dX12_closes_40 : decode cX12_closes 40 = .ok (.iload_n 1, 1) := by decide +kernel
theorem dX12_closes_41 : decode cX12_closes 41 = .ok (.bipush 93, 2) := by decide +kernel
theorem dX12_closes_43 : decode cX12_closes 43 = .ok (.if_icmp .ne 13, 3) := by decide +kernel
theorem dX12_closes_46 : decode cX12_closes 46 = .ok (.iload_n 2, 1) := by decide +kernel
theorem dX12_closes_47 : decode cX12_closes 47 = .ok (.bipush 26, 2) := by decide +kernel
theorem dX12_closes_49 : decode cX12_closes 49 = .ok (.if_icmp .lt 7, 3) := by decide +kernel
theorem dX12_closes_52 : decode cX12_closes 52 = .ok (.iconst 1, 1) := by decide +kernel
theorem dX12_closes_53 : decode cX12_closes 53 = .ok (.goto 4, 3) := by decide +kernel
theorem dX12_closes_56 : decode cX12_closes 56 = .ok (.iconst 0, 1) := by decide +kernel
theorem dX12_closes_57 : decode cX12_closes 57 = .ok (.ireturn, 1) := by decide +kernel
def v_q_mark : List Cond := .code yX12_mark cX12_mark 2 (some .int) :: ([.fieldLink RX12 263 "SlopeRunnerModel" "waits" "I", .fieldLink RX12 270 "SlopeRunnerModel" "base" "I", .fieldLink RX12 75 "SlopeRunnerModel" "wait" "[I"] ++ ((wsV RX12 273 RX12 yX12_isMark v_q_isMark) ++ wsX120))
theorem g_q_mark_0 : GoodIn v_q_mark (wsV RX12 273 RX12 yX12_isMark v_q_isMark) := goodIn_sub (fun w h => List.mem_cons_of_mem _ (List.mem_append_right _ (List.mem_append_left _ h))) (by decide +kernel)
set_option maxHeartbeats 4000000 in
set_option maxRecDepth 100000 in
theorem q_mark (l : Launch) (D : va_G) (y : Nat → ClassId) (sz : Nat) (ad : Nat → Nat) (zw : Nat → Nat → Int32) (σ : OS) (b : Nat) (hbs : (σ.1 40).toInt = (b : Int)) (hbn : (b : Int) ≤ (σ.1 31).toInt) (hw1 : (σ.1 31).toInt ≤ 800) : Met l yX12_mark v_q_mark ({ frames := 1, cells := 0, slots := 0, locals := 21 } : Room) (va_Pc [.ref (ad 1)] (xPre D (xT y) (mwd y ad zw σ) sz)) (va_Qi (fun (r : Int32) (_ : Unit) => MK (σ.2.2.1 30) b (σ.1 31).toInt.toNat r.toInt) (fun (u : Unit) => xB D (xT y) (va_A (mwd y ad zw σ) sz) (mwd y ad zw σ)) (va_A (mwd y ad zw σ) sz)) 0 0 (va_A (mwd y ad zw σ) sz) := by
  refine x_meti (cc := cX12_mark) (maxL := 2) (by decide) rfl (Nat.le_of_ble_eq_true rfl) ?_
  intro p e s m below meth c A H locs Q hx hb hml hown hts hr hlocks hmn hA hP hK hD hS ls hl hQ
  have hl : lv_has ls 2 [(0, .ref (ad 1))] := hl
  have fl263 := hts (.fieldLink RX12 263 "SlopeRunnerModel" "waits" "I") (List.mem_of_getElem? (i := 1) rfl)
  have inX12 : ∀ w ∈ wsX120, w ∈ v_q_mark := (fun w h => List.mem_cons_of_mem _ (List.mem_append_right _ (List.mem_append_right _ h)))
  have kk_1 : (1 : Int32).toInt = 1 := rfl
  have fl270 := hts (.fieldLink RX12 270 "SlopeRunnerModel" "base" "I") (List.mem_of_getElem? (i := 2) rfl)
  have kk_m1 : ((-1) : Int32).toInt = -1 := rfl
  have fl75 := hts (.fieldLink RX12 75 "SlopeRunnerModel" "wait" "[I") (List.mem_of_getElem? (i := 3) rfl)
  have kk_0 : (0 : Int32).toInt = 0 := rfl
  refine lv_aload_n hx hb dX12_mark_0 rfl (lv_at hl 0 rfl) ?_
  refine va_get (D := D) (ci := 11) (v := .int (σ.1 31)) (C := RX12) (T := TX12) (N := 85) hx hb hts inX12 hown hK hP 0 mwd_o0 rfl 31 (by decide) fl263 (fun _ h9 => h9) rfl dX12_mark_1 ?_
  refine lv_iconst (v := 1) hx hb dX12_mark_4 (by decide) ?_
  refine lv_isub hx hb dX12_mark_5 ?_
  refine lv_topi (fun i_1 ei_1 => ?_)
  have vi_1 : i_1.toInt = (σ.1 31).toInt - 1 := by have h9 := x_sub ei_1 (by omega) (by omega); omega
  refine lv_istore_n (lv' := [(1, .int i_1), (0, .ref (ad 1))]) hx hb dX12_mark_6 rfl hl (by decide) rfl (fun ls hl => ?_)
  have loop : ∀ (fu : Nat) (k : Int32) (H : Heap) (locs : List Loc) (ls : Array Slot), ((b : Int) - 1 ≤ k.toInt) → (k.toInt < (σ.1 31).toInt) → (∀ j : Nat, k.toInt < (j : Int) → (j : Int) < (σ.1 31).toInt → ¬ (20 ≤ ((σ.2.2.1 30) j).toInt ∧ ((σ.2.2.1 30) j).toInt < 30)) → (k.toInt - (b : Int) + 1 < (fu : Int)) → va_P D vwCl (mwd y ad zw σ) H → va_D A (mwd y ad zw σ) → va_S A s.heap H locs → lv_has ls 2 [(1, .int k), (0, .ref (ad 1))] → W p l e ({ frames := 1, cells := 0, slots := 0, locals := 21 } : Room) s m ([.ref (ad 1)] : List Value).toArray below meth c H locs 0 0 Q (F0 m 7 ls []) := by
    intro fu
    induction fu with
    | zero =>
      intro k H locs ls hk0 hk1 hk2 hm
      exact absurd hm (by omega)
    | succ fu ih_loop =>
      intro k H locs ls hk0 hk1 hk2 hm hP hD hS hl
      refine lv_iload_n hx hb dX12_mark_7 rfl (lv_at hl 0 rfl) ?_
      refine lv_aload_n hx hb dX12_mark_8 rfl (lv_at hl 1 rfl) ?_
      refine va_get (D := D) (ci := 11) (v := .int (σ.1 40)) (C := RX12) (T := TX12) (N := 85) hx hb hts inX12 hown hK hP 0 mwd_o0 rfl 40 (by decide) fl270 (fun _ h9 => h9) rfl dX12_mark_9 ?_
      refine lv_icmp_lt (tgt := 34) hx hb dX12_mark_12 (by decide) (fun c_2 => ?_) (fun c_2 => ?_)
      · have kc_2 : k.toInt < (σ.1 40).toInt := by have h9 := c_2; simp only [ge_iff_le, gt_iff_lt, x_lt, x_le, x_eq, ne_eq, Int32.not_lt, Int32.not_le] at h9; omega
        refine lv_iload_n hx hb dX12_mark_34 rfl (lv_at hl 0 rfl) ?_
        refine lv_aload_n hx hb dX12_mark_35 rfl (lv_at hl 1 rfl) ?_
        refine va_get (D := D) (ci := 11) (v := .int (σ.1 40)) (C := RX12) (T := TX12) (N := 85) hx hb hts inX12 hown hK hP 0 mwd_o0 rfl 40 (by decide) fl270 (fun _ h9 => h9) rfl dX12_mark_36 ?_
        refine lv_icmp_lt (tgt := 51) hx hb dX12_mark_39 (by decide) (fun c_3 => ?_) (fun c_3 => ?_)
        · have kc_3 : k.toInt < (σ.1 40).toInt := by have h9 := c_3; simp only [ge_iff_le, gt_iff_lt, x_lt, x_le, x_eq, ne_eq, Int32.not_lt, Int32.not_le] at h9; omega
          refine lv_iconst (v := (-1)) hx hb dX12_mark_51 (by decide) ?_
          exact x_iretW (v := (-1)) (u := ()) hx hb hr hQ (Or.inl ⟨by omega, fun k9 h1 h2 => hk2 k9 (by omega) (by omega)⟩) hP hD hK hS dX12_mark_52 hlocks
        · have kc_3 : k.toInt ≥ (σ.1 40).toInt := by have h9 := c_3; simp only [ge_iff_le, gt_iff_lt, x_lt, x_le, x_eq, ne_eq, Int32.not_lt, Int32.not_le] at h9; omega
          refine lv_aload_n hx hb dX12_mark_42 rfl (lv_at hl 1 rfl) ?_
          refine va_get (D := D) (ci := 11) (v := .ref (ad 30)) (C := RX12) (T := TX12) (N := 85) hx hb hts inX12 hown hK hP 0 mwd_o0 rfl 30 (by decide) fl75 (fun _ h9 => h9) rfl dX12_mark_43 ?_
          refine lv_iload_n hx hb dX12_mark_46 rfl (lv_at hl 0 rfl) ?_
          refine va_iald hx hb hK hP 21 2 mwd_a21 rfl (x_in (by omega) (by omega)) dX12_mark_47 ?_
          refine lv_topi (fun i_4 ei_4 => ?_)
          have ei_4 : i_4 = (σ.2.2.1 30) (Int32.toNatClampNeg k) := ei_4
          have qi_4 : i_4.toInt = ((σ.2.2.1 30) k.toInt.toNat).toInt := by rw [ei_4]; rfl
          refine lv_goto (tgt := 52) hx hb dX12_mark_48 (by decide) ?_
          exact x_iretW (v := i_4) (u := ()) hx hb hr hQ (Or.inr ⟨k.toInt.toNat, by omega, by omega, by omega, by omega, by omega, fun j h1 h2 => hk2 j (by omega) (by omega)⟩) hP hD hK hS dX12_mark_52 hlocks
      · have kc_2 : k.toInt ≥ (σ.1 40).toInt := by have h9 := c_2; simp only [ge_iff_le, gt_iff_lt, x_lt, x_le, x_eq, ne_eq, Int32.not_lt, Int32.not_le] at h9; omega
        refine lv_aload_n hx hb dX12_mark_15 rfl (lv_at hl 1 rfl) ?_
        refine lv_aload_n hx hb dX12_mark_16 rfl (lv_at hl 1 rfl) ?_
        refine va_get (D := D) (ci := 11) (v := .ref (ad 30)) (C := RX12) (T := TX12) (N := 85) hx hb hts inX12 hown hK hP 0 mwd_o0 rfl 30 (by decide) fl75 (fun _ h9 => h9) rfl dX12_mark_17 ?_
        refine lv_iload_n hx hb dX12_mark_20 rfl (lv_at hl 0 rfl) ?_
        refine va_iald hx hb hK hP 21 2 mwd_a21 rfl (x_in (by omega) (by omega)) dX12_mark_21 ?_
        refine lv_topi (fun i_5 ei_5 => ?_)
        have ei_5 : i_5 = (σ.2.2.1 30) (Int32.toNatClampNeg k) := ei_5
        have qi_5 : i_5.toInt = ((σ.2.2.1 30) k.toInt.toNat).toInt := by rw [ei_5]; rfl
        refine x_calliW (va_runV (As := [.int i_5]) (rest := []) ⟨hx, hb, hml, hown, hts⟩ (q_isMark l D y H.size ad zw σ i_5) (cwV 1 hts g_q_mark_0 rfl rfl rfl (by decide +kernel) ⟨Nat.le_of_ble_eq_true rfl, Nat.le_of_ble_eq_true rfl⟩) (x_preV (q := (RX12, TX12, 85)) hK hP hD (ci := 11) (q0 := 0) rfl mwd_o0) rfl rfl hl.1 rfl (lv_room (Nat.le_of_ble_eq_true rfl)) dX12_mark_22 ⟨Nat.le_of_ble_eq_true rfl, Nat.le_of_ble_eq_true rfl⟩) hP hD hS hA (fun r_6 u H locs hw hP hD hS => ?_)
        try dsimp only at hw
        have hP : va_P D vwCl (mwd y ad zw σ) H := hP
        have hD : va_D A (mwd y ad zw σ) := hD
        have hmk := hw
        refine lv_if_ne (tgt := 34) hx hb dX12_mark_25 (by decide) (fun c_7 => ?_) (fun c_7 => ?_)
        · have kc_7 : r_6.toInt ≠ 0 := by have h9 := c_7; simp only [ge_iff_le, gt_iff_lt, x_lt, x_le, x_eq, ne_eq, Int32.not_lt, Int32.not_le] at h9; simp only [Int32.reduceToInt] at h9; omega
          refine lv_iload_n hx hb dX12_mark_34 rfl (lv_at hl 0 rfl) ?_
          refine lv_aload_n hx hb dX12_mark_35 rfl (lv_at hl 1 rfl) ?_
          refine va_get (D := D) (ci := 11) (v := .int (σ.1 40)) (C := RX12) (T := TX12) (N := 85) hx hb hts inX12 hown hK hP 0 mwd_o0 rfl 40 (by decide) fl270 (fun _ h9 => h9) rfl dX12_mark_36 ?_
          refine lv_icmp_lt (tgt := 51) hx hb dX12_mark_39 (by decide) (fun c_8 => ?_) (fun c_8 => ?_)
          · have kc_8 : k.toInt < (σ.1 40).toInt := by have h9 := c_8; simp only [ge_iff_le, gt_iff_lt, x_lt, x_le, x_eq, ne_eq, Int32.not_lt, Int32.not_le] at h9; omega
            refine lv_iconst (v := (-1)) hx hb dX12_mark_51 (by decide) ?_
            exact x_iretW (v := (-1)) (u := ()) hx hb hr hQ (Or.inl ⟨by omega, fun k9 h1 h2 => hk2 k9 (by omega) (by omega)⟩) hP hD hK hS dX12_mark_52 hlocks
          · have kc_8 : k.toInt ≥ (σ.1 40).toInt := by have h9 := c_8; simp only [ge_iff_le, gt_iff_lt, x_lt, x_le, x_eq, ne_eq, Int32.not_lt, Int32.not_le] at h9; omega
            refine lv_aload_n hx hb dX12_mark_42 rfl (lv_at hl 1 rfl) ?_
            refine va_get (D := D) (ci := 11) (v := .ref (ad 30)) (C := RX12) (T := TX12) (N := 85) hx hb hts inX12 hown hK hP 0 mwd_o0 rfl 30 (by decide) fl75 (fun _ h9 => h9) rfl dX12_mark_43 ?_
            refine lv_iload_n hx hb dX12_mark_46 rfl (lv_at hl 0 rfl) ?_
            refine va_iald hx hb hK hP 21 2 mwd_a21 rfl (x_in (by omega) (by omega)) dX12_mark_47 ?_
            refine lv_topi (fun i_9 ei_9 => ?_)
            have ei_9 : i_9 = (σ.2.2.1 30) (Int32.toNatClampNeg k) := ei_9
            have qi_9 : i_9.toInt = ((σ.2.2.1 30) k.toInt.toNat).toInt := by rw [ei_9]; rfl
            refine lv_goto (tgt := 52) hx hb dX12_mark_48 (by decide) ?_
            exact x_iretW (v := i_9) (u := ()) hx hb hr hQ (Or.inr ⟨k.toInt.toNat, by omega, by omega, by omega, by omega, by omega, fun j h1 h2 => hk2 j (by omega) (by omega)⟩) hP hD hK hS dX12_mark_52 hlocks
        · have kc_7 : r_6.toInt = 0 := by have h9 := c_7; simp only [ge_iff_le, gt_iff_lt, x_lt, x_le, x_eq, ne_eq, Int32.not_lt, Int32.not_le] at h9; simp only [Int32.reduceToInt] at h9; omega
          obtain ⟨i_10, ei_10⟩ : ∃ z9 : Int32, z9 = k + (-1) := ⟨_, rfl⟩
          have vi_10 : i_10.toInt = k.toInt + (-1) := by have h9 := x_add ei_10 (by omega) (by omega); omega
          refine lv_iinc (v := i_10) (lv' := [(1, .int i_10), (0, .ref (ad 1))]) hx hb dX12_mark_28 hl (k := 0) rfl (by rw [ei_10]; rfl) (by decide) rfl (fun ls hl => ?_)
          refine lv_goto (tgt := 7) hx hb dX12_mark_31 (by decide) ?_
          exact ih_loop i_10 H locs ls (by omega) (by omega) (fun j h1 h2 => by by_cases h3 : (j : Int) = k.toInt <;> first | (rw [show j = k.toInt.toNat by omega]; omega) | exact hk2 j (by omega) h2) (by omega) hP hD hS (lv_sub hl [0, 1] rfl)
  exact loop 801 i_1 H locs ls (by omega) (by omega) (fun j h1 h2 => absurd h2 (by omega)) (by omega) hP hD hS (lv_sub hl [0, 1] rfl)

def v_q_dropsToMark : List Cond := .code yX12_dropsToMark cX12_dropsToMark 1 none :: ([.fieldLink RX12 263 "SlopeRunnerModel" "waits" "I", .fieldLink RX12 270 "SlopeRunnerModel" "base" "I", .fieldLink RX12 75 "SlopeRunnerModel" "wait" "[I"] ++ ((wsV RX12 273 RX12 yX12_isMark v_q_isMark) ++ ((wsV RX12 276 RX12 yX12_drops v_q_drops) ++ wsX120)))
theorem g_q_dropsToMark_0 : GoodIn v_q_dropsToMark (wsV RX12 273 RX12 yX12_isMark v_q_isMark) := goodIn_sub (fun w h => List.mem_cons_of_mem _ (List.mem_append_right _ (List.mem_append_left _ h))) (by decide +kernel)
theorem g_q_dropsToMark_1 : GoodIn v_q_dropsToMark (wsV RX12 276 RX12 yX12_drops v_q_drops) := goodIn_sub (fun w h => List.mem_cons_of_mem _ (List.mem_append_right _ (List.mem_append_right _ (List.mem_append_left _ h)))) (by decide +kernel)
set_option maxHeartbeats 4000000 in
set_option maxRecDepth 100000 in
theorem q_dropsToMark (l : Launch) (D : va_G) (y : Nat → ClassId) (sz : Nat) (ad : Nat → Nat) (zw : Nat → Nat → Int32) (σ : OS) (f0 w0 : Nat → Int32) (c0 b : Nat) (X o0 : Int) (hbs : (σ.1 40).toInt = (b : Int)) (hw0 : 0 ≤ (σ.1 31).toInt) (hw1 : (σ.1 31).toInt ≤ 800) (hc0 : 0 ≤ (σ.1 29).toInt) (hc1 : (σ.1 29).toInt + (σ.1 31).toInt < 1200) (hx : 1000 ≤ X) (hes : ES f0 (σ.2.2.1 27) w0 (σ.2.2.1 30) c0 (σ.1 29).toInt.toNat b (σ.1 31).toInt.toNat 1 X (σ.1 32).toInt o0) : Met l yX12_dropsToMark v_q_dropsToMark ({ frames := 2, cells := 0, slots := 0, locals := 41 } : Room) (va_Pc [.ref (ad 1)] (xPre D (xT y) (mwd y ad zw σ) sz)) (va_Qv (fun (u : Int32 × Int32 × (Nat → Int32)) => ES f0 u.2.2 w0 (σ.2.2.1 30) c0 u.2.1.toInt.toNat b u.1.toInt.toNat 1 X (σ.1 32).toInt o0 ∧ u.2.1.toInt + u.1.toInt = (σ.1 29).toInt + (σ.1 31).toInt ∧ u.1.toInt ≤ (σ.1 31).toInt ∧ (σ.1 29).toInt ≤ u.2.1.toInt ∧ (b : Int) ≤ u.1.toInt ∧ (u.1.toInt = (b : Int) ∨ (20 ≤ ((σ.2.2.1 30) (u.1.toInt.toNat - 1)).toInt ∧ ((σ.2.2.1 30) (u.1.toInt.toNat - 1)).toInt < 30)) ∧ ∀ j : Nat, u.1.toInt ≤ (j : Int) → (j : Int) < (σ.1 31).toInt → ¬ (20 ≤ ((σ.2.2.1 30) j).toInt ∧ ((σ.2.2.1 30) j).toInt < 30)) (fun (u : Int32 × Int32 × (Nat → Int32)) => xB D (xT y) (va_A (mwd y ad zw σ) sz) (mwd y ad zw (tI (sI (sI σ 31 u.1) 29 u.2.1) 27 u.2.2))) (va_A (mwd y ad zw σ) sz)) 0 0 (va_A (mwd y ad zw σ) sz) := by
  refine x_metv (cc := cX12_dropsToMark) (maxL := 1) (by decide) rfl (Nat.le_of_ble_eq_true rfl) ?_
  intro p e s m below meth c A H locs Q hx hb hml hown hts hr hlocks hmn hA hP hK hD hS ls hl hQ
  have hl : lv_has ls 1 [(0, .ref (ad 1))] := hl
  have fl263 := hts (.fieldLink RX12 263 "SlopeRunnerModel" "waits" "I") (List.mem_of_getElem? (i := 1) rfl)
  have inX12 : ∀ w ∈ wsX120, w ∈ v_q_dropsToMark := (fun w h => List.mem_cons_of_mem _ (List.mem_append_right _ (List.mem_append_right _ (List.mem_append_right _ h))))
  have fl270 := hts (.fieldLink RX12 270 "SlopeRunnerModel" "base" "I") (List.mem_of_getElem? (i := 2) rfl)
  have fl75 := hts (.fieldLink RX12 75 "SlopeRunnerModel" "wait" "[I") (List.mem_of_getElem? (i := 3) rfl)
  have kk_1 : (1 : Int32).toInt = 1 := rfl
  have kk_0 : (0 : Int32).toInt = 0 := rfl
  have hP : va_P D vwCl (mwd y ad zw (tI (sI (sI σ 31 (σ.1 31)) 29 (σ.1 29)) 27 (σ.2.2.1 27))) H := hP
  have hD : va_D A (mwd y ad zw (tI (sI (sI σ 31 (σ.1 31)) 29 (σ.1 29)) 27 (σ.2.2.1 27))) := hD
  have loop : ∀ (fu : Nat) (n : Int32) (cd : Int32) (f : Nat → Int32) (H : Heap) (locs : List Loc) (ls : Array Slot), (n.toInt ≤ (σ.1 31).toInt) → ((b : Int) ≤ n.toInt) → (cd.toInt + n.toInt = (σ.1 29).toInt + (σ.1 31).toInt) → (ES f0 f w0 (σ.2.2.1 30) c0 cd.toInt.toNat b n.toInt.toNat 1 X (σ.1 32).toInt o0) → (∀ j : Nat, n.toInt ≤ (j : Int) → (j : Int) < (σ.1 31).toInt → ¬ (20 ≤ ((σ.2.2.1 30) j).toInt ∧ ((σ.2.2.1 30) j).toInt < 30)) → (n.toInt - (b : Int) < (fu : Int)) → va_P D vwCl (mwd y ad zw (tI (sI (sI σ 31 n) 29 cd) 27 f)) H → va_D A (mwd y ad zw (tI (sI (sI σ 31 n) 29 cd) 27 f)) → va_S A s.heap H locs → lv_has ls 1 [(0, .ref (ad 1))] → W p l e ({ frames := 2, cells := 0, slots := 0, locals := 41 } : Room) s m ([.ref (ad 1)] : List Value).toArray below meth c H locs 0 0 Q (F0 m 0 ls []) := by
    intro fu
    induction fu with
    | zero =>
      intro n cd f H locs ls hn1 hn2 hcd hes1 hnd hm
      exact absurd hm (by omega)
    | succ fu ih_loop =>
      intro n cd f H locs ls hn1 hn2 hcd hes1 hnd hm hP hD hS hl
      refine lv_aload_n hx hb dX12_dropsToMark_0 rfl (lv_at hl 0 rfl) ?_
      refine va_get (D := D) (ci := 11) (v := .int n) (C := RX12) (T := TX12) (N := 85) hx hb hts inX12 hown hK hP 0 mwd_o0 rfl 31 (by decide) fl263 (fun _ h9 => h9) rfl dX12_dropsToMark_1 ?_
      refine lv_aload_n hx hb dX12_dropsToMark_4 rfl (lv_at hl 0 rfl) ?_
      refine va_get (D := D) (ci := 11) (v := .int (σ.1 40)) (C := RX12) (T := TX12) (N := 85) hx hb hts inX12 hown hK hP 0 mwd_o0 rfl 40 (by decide) fl270 (fun _ h9 => h9) rfl dX12_dropsToMark_5 ?_
      refine lv_icmp_le (tgt := 36) hx hb dX12_dropsToMark_8 (by decide) (fun c_1 => ?_) (fun c_1 => ?_)
      · have kc_1 : n.toInt ≤ (σ.1 40).toInt := by have h9 := c_1; simp only [ge_iff_le, gt_iff_lt, x_lt, x_le, x_eq, ne_eq, Int32.not_lt, Int32.not_le] at h9; omega
        exact x_vretW (u := (n, cd, f)) hx hb hr hQ (by (try dsimp only); exact ⟨hes1, by omega, by omega, by omega, by omega, by omega, hnd⟩) hP hD hK hS dX12_dropsToMark_36 hlocks
      · have kc_1 : n.toInt > (σ.1 40).toInt := by have h9 := c_1; simp only [ge_iff_le, gt_iff_lt, x_lt, x_le, x_eq, ne_eq, Int32.not_lt, Int32.not_le] at h9; omega
        refine lv_aload_n hx hb dX12_dropsToMark_11 rfl (lv_at hl 0 rfl) ?_
        refine lv_aload_n hx hb dX12_dropsToMark_12 rfl (lv_at hl 0 rfl) ?_
        refine va_get (D := D) (ci := 11) (v := .ref (ad 30)) (C := RX12) (T := TX12) (N := 85) hx hb hts inX12 hown hK hP 0 mwd_o0 rfl 30 (by decide) fl75 (fun _ h9 => h9) rfl dX12_dropsToMark_13 ?_
        refine lv_aload_n hx hb dX12_dropsToMark_16 rfl (lv_at hl 0 rfl) ?_
        refine va_get (D := D) (ci := 11) (v := .int n) (C := RX12) (T := TX12) (N := 85) hx hb hts inX12 hown hK hP 0 mwd_o0 rfl 31 (by decide) fl263 (fun _ h9 => h9) rfl dX12_dropsToMark_17 ?_
        refine lv_iconst (v := 1) hx hb dX12_dropsToMark_20 (by decide) ?_
        refine lv_isub hx hb dX12_dropsToMark_21 ?_
        refine lv_topi (fun i_2 ei_2 => ?_)
        have vi_2 : i_2.toInt = n.toInt - 1 := by have h9 := x_sub ei_2 (by omega) (by omega); omega
        refine va_iald hx hb hK hP 21 2 mwd_a21 rfl (x_in (by omega) (by omega)) dX12_dropsToMark_22 ?_
        refine lv_topi (fun i_3 ei_3 => ?_)
        have ei_3 : i_3 = (σ.2.2.1 30) (Int32.toNatClampNeg i_2) := ei_3
        have qi_3 : i_3.toInt = ((σ.2.2.1 30) (n.toInt.toNat - 1)).toInt := by rw [ei_3, x_cl (n := n.toInt.toNat - 1) (by omega)]
        refine x_calliW (va_runV (As := [.int i_3]) (rest := []) ⟨hx, hb, hml, hown, hts⟩ (q_isMark l D y H.size ad zw (tI (sI (sI σ 31 n) 29 cd) 27 f) i_3) (cwV 1 hts g_q_dropsToMark_0 rfl rfl rfl (by decide +kernel) ⟨Nat.le_of_ble_eq_true rfl, Nat.le_of_ble_eq_true rfl⟩) (x_preV (q := (RX12, TX12, 85)) hK hP hD (ci := 11) (q0 := 0) rfl mwd_o0) rfl rfl hl.1 rfl (lv_room (Nat.le_of_ble_eq_true rfl)) dX12_dropsToMark_23 ⟨Nat.le_of_ble_eq_true rfl, Nat.le_of_ble_eq_true rfl⟩) hP hD hS hA (fun r_4 u H locs hw hP hD hS => ?_)
        try dsimp only at hw
        have hP : va_P D vwCl (mwd y ad zw (tI (sI (sI σ 31 n) 29 cd) 27 f)) H := hP
        have hD : va_D A (mwd y ad zw (tI (sI (sI σ 31 n) 29 cd) 27 f)) := hD
        have hmk := hw
        refine lv_if_ne (tgt := 36) hx hb dX12_dropsToMark_26 (by decide) (fun c_5 => ?_) (fun c_5 => ?_)
        · have kc_5 : r_4.toInt ≠ 0 := by have h9 := c_5; simp only [ge_iff_le, gt_iff_lt, x_lt, x_le, x_eq, ne_eq, Int32.not_lt, Int32.not_le] at h9; simp only [Int32.reduceToInt] at h9; omega
          exact x_vretW (u := (n, cd, f)) hx hb hr hQ (by (try dsimp only); exact ⟨hes1, by omega, by omega, by omega, by omega, by omega, hnd⟩) hP hD hK hS dX12_dropsToMark_36 hlocks
        · have kc_5 : r_4.toInt = 0 := by have h9 := c_5; simp only [ge_iff_le, gt_iff_lt, x_lt, x_le, x_eq, ne_eq, Int32.not_lt, Int32.not_le] at h9; simp only [Int32.reduceToInt] at h9; omega
          refine lv_aload_n hx hb dX12_dropsToMark_29 rfl (lv_at hl 0 rfl) ?_
          refine x_callvW (va_runV (As := []) (rest := []) ⟨hx, hb, hml, hown, hts⟩ (q_drops l D y H.size ad zw (tI (sI (sI σ 31 n) 29 cd) 27 f) (show 1 ≤ (n).toInt from by first | omega | decide) (show (n).toInt ≤ 800 from by first | omega | decide) (show 0 ≤ (cd).toInt from by first | omega | decide) (show (cd).toInt < 1200 from by first | omega | decide)) (cwV 0 hts g_q_dropsToMark_1 rfl rfl rfl (by decide +kernel) ⟨Nat.le_of_ble_eq_true rfl, Nat.le_of_ble_eq_true rfl⟩) (x_preV (q := (RX12, TX12, 85)) hK hP hD (ci := 11) (q0 := 0) rfl mwd_o0) rfl rfl hl.1 rfl (lv_room (Nat.le_of_ble_eq_true rfl)) dX12_dropsToMark_30 ⟨Nat.le_of_ble_eq_true rfl, Nat.le_of_ble_eq_true rfl⟩) hP hD hS hA (fun u H locs hw hP hD hS => ?_)
          obtain ⟨n_6, n_7, f_8⟩ := u
          try dsimp only at hw
          have hP : va_P D vwCl (mwd y ad zw (tI (sI (sI (tI (sI (sI σ 31 n) 29 cd) 27 f) 31 n_6) 29 n_7) 27 f_8)) H := hP
          have hD : va_D A (mwd y ad zw (tI (sI (sI (tI (sI (sI σ 31 n) 29 cd) 27 f) 31 n_6) 29 n_7) 27 f_8)) := hD
          have hw : n_6.toInt = (n).toInt - 1 ∧ n_7.toInt = (cd).toInt + 1 ∧ f_8 = upd (f) (cd).toInt.toNat (((σ.2.2.1 30)) ((n).toInt.toNat - 1)) := hw
          refine lv_goto (tgt := 0) hx hb dX12_dropsToMark_33 (by decide) ?_
          have hP : va_P D vwCl (mwd y ad zw (tI (sI (sI σ 31 n_6) 29 n_7) 27 f_8)) H := hP
          have hD : va_D A (mwd y ad zw (tI (sI (sI σ 31 n_6) 29 n_7) 27 f_8)) := hD
          exact ih_loop n_6 n_7 f_8 H locs ls (by omega) (by omega) (by omega) (by have h9 := hes1.1.2.2.1 (n.toInt.toNat - 1) (by omega) (by omega); have h8 := ES_drop hes1 (by omega) (by omega) (by omega); obtain ⟨h7, h6, h5⟩ := hw; rw [h5, show n_7.toInt.toNat = cd.toInt.toNat + 1 by omega, show n_6.toInt.toNat = n.toInt.toNat - 1 by omega]; exact h8) (fun j h1 h2 => by by_cases h3 : (j : Int) = n.toInt - 1 <;> first | (rw [show j = n.toInt.toNat - 1 by omega]; omega) | exact hnd j (by omega) h2) (by omega) hP hD hS (lv_sub hl [0] rfl)
  exact loop 801 (σ.1 31) (σ.1 29) (σ.2.2.1 27) H locs ls (Int.le_refl _) (by have h9 := hes.1.2.1; omega) (by omega) hes (fun j h1 h2 => absurd h2 (by omega)) (by omega) hP hD hS (lv_sub hl [0] rfl)

def v_q_closes : List Cond := .code yX12_closes cX12_closes 3 (some .boolean) :: ([] ++ ((wsV RX12 203 RX12 yX12_look v_q_look2) ++ (wsV RX12 299 RX12 yX12_mark v_q_mark)))
theorem g_q_closes_0 : GoodIn v_q_closes (wsV RX12 203 RX12 yX12_look v_q_look2) := goodIn_sub (fun w h => List.mem_cons_of_mem _ (List.mem_append_right _ (List.mem_append_left _ h))) (by decide +kernel)
theorem g_q_closes_1 : GoodIn v_q_closes (wsV RX12 299 RX12 yX12_mark v_q_mark) := goodIn_sub (fun w h => List.mem_cons_of_mem _ (List.mem_append_right _ (List.mem_append_right _ h))) (by decide +kernel)
set_option maxHeartbeats 4000000 in
set_option maxRecDepth 100000 in
theorem q_closes (l : Launch) (D : va_G) (y : Nat → ClassId) (sz : Nat) (ad : Nat → Nat) (zw : Nat → Nat → Int32) (σ : OS) (b : Nat) (hbs : (σ.1 40).toInt = (b : Int)) (hbn : (b : Int) ≤ (σ.1 31).toInt) (hw1 : (σ.1 31).toInt ≤ 800) (ha0 : 0 ≤ (σ.1 2).toInt) (ha1 : (σ.1 2).toInt ≤ (σ.1 3).toInt) (ha2 : (σ.1 3).toInt ≤ 700) : Met l yX12_closes v_q_closes ({ frames := 2, cells := 0, slots := 0, locals := 42 } : Room) (va_Pc [.ref (ad 1)] (xPre D (xT y) (mwd y ad zw σ) sz)) (va_Qi (fun (r : Int32) (u : Int32) => (σ.1 2).toInt ≤ u.toInt ∧ u.toInt ≤ (σ.1 3).toInt ∧ ((r.toInt = 0) ∨ (r.toInt = 1 ∧ u.toInt < (σ.1 3).toInt ∧ ∃ q : Int, MK (σ.2.2.1 30) b (σ.1 31).toInt.toNat q ∧ (q = 20 ∨ q = 23 ∨ q = 24 ∨ q = 25 ∨ 26 ≤ q)))) (fun (u : Int32) => xB D (xT y) (va_A (mwd y ad zw σ) sz) (mwd y ad zw (sI σ 2 u))) (va_A (mwd y ad zw σ) sz)) 0 0 (va_A (mwd y ad zw σ) sz) := by
  refine x_meti (cc := cX12_closes) (maxL := 3) (by decide) rfl (Nat.le_of_ble_eq_true rfl) ?_
  intro p e s m below meth c A H locs Q hx hb hml hown hts hr hlocks hmn hA hP hK hD hS ls hl hQ
  have hl : lv_has ls 3 [(0, .ref (ad 1))] := hl
  have kk_41 : (41 : Int32).toInt = 41 := rfl
  have kk_93 : (93 : Int32).toInt = 93 := rfl
  have kk_0 : (0 : Int32).toInt = 0 := rfl
  have kk_26 : (26 : Int32).toInt = 26 := rfl
  have kk_1 : (1 : Int32).toInt = 1 := rfl
  have kk_20 : (20 : Int32).toInt = 20 := rfl
  have kk_23 : (23 : Int32).toInt = 23 := rfl
  have kk_24 : (24 : Int32).toInt = 24 := rfl
  have kk_25 : (25 : Int32).toInt = 25 := rfl
  refine lv_aload_n hx hb dX12_closes_0 rfl (lv_at hl 0 rfl) ?_
  refine x_calliW (va_runV (As := []) (rest := []) ⟨hx, hb, hml, hown, hts⟩ (q_look2 l D y H.size ad zw σ (show 0 ≤ ((σ.1 2)).toInt from by first | omega | decide) (show ((σ.1 2)).toInt ≤ ((σ.1 3)).toInt from by first | omega | decide) (show ((σ.1 3)).toInt ≤ 700 from by first | omega | decide)) (cwV 0 hts g_q_closes_0 rfl rfl rfl (by decide +kernel) ⟨Nat.le_of_ble_eq_true rfl, Nat.le_of_ble_eq_true rfl⟩) (x_preV (q := (RX12, TX12, 85)) hK hP hD (ci := 11) (q0 := 0) rfl mwd_o0) rfl rfl hl.1 rfl (lv_room (Nat.le_of_ble_eq_true rfl)) dX12_closes_1 ⟨Nat.le_of_ble_eq_true rfl, Nat.le_of_ble_eq_true rfl⟩) hP hD hS hA (fun r_1 u H locs hw hP hD hS => ?_)
  obtain ⟨n_2, rfl⟩ : ∃ z9, z9 = u := ⟨_, rfl⟩
  try dsimp only at hw
  have hP : va_P D vwCl (mwd y ad zw (sI σ 2 n_2)) H := hP
  have hD : va_D A (mwd y ad zw (sI σ 2 n_2)) := hD
  have hw : ((σ.1 2)).toInt ≤ n_2.toInt ∧ n_2.toInt ≤ ((σ.1 3)).toInt ∧ (r_1.toInt = -1 ∨ (n_2.toInt < ((σ.1 3)).toInt ∧ r_1 = ((σ.2.2.1 0)) (Int32.toNatClampNeg n_2))) := hw
  have hlk := hw
  refine lv_istore_n (lv' := [(1, .int r_1), (0, .ref (ad 1))]) hx hb dX12_closes_4 rfl hl (by decide) rfl (fun ls hl => ?_)
  refine lv_aload_n hx hb dX12_closes_5 rfl (lv_at hl 1 rfl) ?_
  refine x_calliW (va_runV (As := []) (rest := []) ⟨hx, hb, hml, hown, hts⟩ (q_mark l D y H.size ad zw (sI σ 2 n_2) b (show ((σ.1 40)).toInt = (b : Int) from by first | omega | decide) (show (b : Int) ≤ ((σ.1 31)).toInt from by first | omega | decide) (show ((σ.1 31)).toInt ≤ 800 from by first | omega | decide)) (cwV 0 hts g_q_closes_1 rfl rfl rfl (by decide +kernel) ⟨Nat.le_of_ble_eq_true rfl, Nat.le_of_ble_eq_true rfl⟩) (x_preV (q := (RX12, TX12, 85)) hK hP hD (ci := 11) (q0 := 0) rfl mwd_o0) rfl rfl hl.1 rfl (lv_room (Nat.le_of_ble_eq_true rfl)) dX12_closes_6 ⟨Nat.le_of_ble_eq_true rfl, Nat.le_of_ble_eq_true rfl⟩) hP hD hS hA (fun r_3 u H locs hw hP hD hS => ?_)
  try dsimp only at hw
  have hP : va_P D vwCl (mwd y ad zw (sI σ 2 n_2)) H := hP
  have hD : va_D A (mwd y ad zw (sI σ 2 n_2)) := hD
  have hw : MK ((σ.2.2.1 30)) b ((σ.1 31)).toInt.toNat r_3.toInt := hw
  have hmk := hw
  refine lv_istore_n (lv' := [(2, .int r_3), (1, .int r_1), (0, .ref (ad 1))]) hx hb dX12_closes_9 rfl hl (by decide) rfl (fun ls hl => ?_)
  refine lv_iload_n hx hb dX12_closes_10 rfl (lv_at hl 1 rfl) ?_
  refine lv_bipush (v := 41) hx hb dX12_closes_11 (by decide) ?_
  refine lv_icmp_ne (tgt := 40) hx hb dX12_closes_13 (by decide) (fun c_4 => ?_) (fun c_4 => ?_)
  · have kc_4 : r_1.toInt ≠ 41 := by have h9 := c_4; simp only [ge_iff_le, gt_iff_lt, x_lt, x_le, x_eq, ne_eq, Int32.not_lt, Int32.not_le] at h9; simp only [Int32.reduceToInt] at h9; omega
    refine lv_iload_n hx hb dX12_closes_40 rfl (lv_at hl 1 rfl) ?_
    refine lv_bipush (v := 93) hx hb dX12_closes_41 (by decide) ?_
    refine lv_icmp_ne (tgt := 56) hx hb dX12_closes_43 (by decide) (fun c_5 => ?_) (fun c_5 => ?_)
    · have kc_5 : r_1.toInt ≠ 93 := by have h9 := c_5; simp only [ge_iff_le, gt_iff_lt, x_lt, x_le, x_eq, ne_eq, Int32.not_lt, Int32.not_le] at h9; simp only [Int32.reduceToInt] at h9; omega
      refine lv_iconst (v := 0) hx hb dX12_closes_56 (by decide) ?_
      exact x_zretW (v := 0) (u := n_2) hx hb hr hQ rfl ⟨by omega, by omega, by first | exact Or.inl (by omega) | exact Or.inr ⟨by omega, by omega, r_3.toInt, hmk, by omega⟩⟩ hP hD hK hS dX12_closes_57 hlocks
    · have kc_5 : r_1.toInt = 93 := by have h9 := c_5; simp only [ge_iff_le, gt_iff_lt, x_lt, x_le, x_eq, ne_eq, Int32.not_lt, Int32.not_le] at h9; simp only [Int32.reduceToInt] at h9; omega
      refine lv_iload_n hx hb dX12_closes_46 rfl (lv_at hl 0 rfl) ?_
      refine lv_bipush (v := 26) hx hb dX12_closes_47 (by decide) ?_
      refine lv_icmp_lt (tgt := 56) hx hb dX12_closes_49 (by decide) (fun c_6 => ?_) (fun c_6 => ?_)
      · have kc_6 : r_3.toInt < 26 := by have h9 := c_6; simp only [ge_iff_le, gt_iff_lt, x_lt, x_le, x_eq, ne_eq, Int32.not_lt, Int32.not_le] at h9; simp only [Int32.reduceToInt] at h9; omega
        refine lv_iconst (v := 0) hx hb dX12_closes_56 (by decide) ?_
        exact x_zretW (v := 0) (u := n_2) hx hb hr hQ rfl ⟨by omega, by omega, by first | exact Or.inl (by omega) | exact Or.inr ⟨by omega, by omega, r_3.toInt, hmk, by omega⟩⟩ hP hD hK hS dX12_closes_57 hlocks
      · have kc_6 : r_3.toInt ≥ 26 := by have h9 := c_6; simp only [ge_iff_le, gt_iff_lt, x_lt, x_le, x_eq, ne_eq, Int32.not_lt, Int32.not_le] at h9; simp only [Int32.reduceToInt] at h9; omega
        refine lv_iconst (v := 1) hx hb dX12_closes_52 (by decide) ?_
        refine lv_goto (tgt := 57) hx hb dX12_closes_53 (by decide) ?_
        exact x_zretW (v := 1) (u := n_2) hx hb hr hQ rfl ⟨by omega, by omega, by first | exact Or.inl (by omega) | exact Or.inr ⟨by omega, by omega, r_3.toInt, hmk, by omega⟩⟩ hP hD hK hS dX12_closes_57 hlocks
  · have kc_4 : r_1.toInt = 41 := by have h9 := c_4; simp only [ge_iff_le, gt_iff_lt, x_lt, x_le, x_eq, ne_eq, Int32.not_lt, Int32.not_le] at h9; simp only [Int32.reduceToInt] at h9; omega
    refine lv_iload_n hx hb dX12_closes_16 rfl (lv_at hl 0 rfl) ?_
    refine lv_bipush (v := 20) hx hb dX12_closes_17 (by decide) ?_
    refine lv_icmp_eq (tgt := 52) hx hb dX12_closes_19 (by decide) (fun c_7 => ?_) (fun c_7 => ?_)
    · have kc_7 : r_3.toInt = 20 := by have h9 := c_7; simp only [ge_iff_le, gt_iff_lt, x_lt, x_le, x_eq, ne_eq, Int32.not_lt, Int32.not_le] at h9; simp only [Int32.reduceToInt] at h9; omega
      refine lv_iconst (v := 1) hx hb dX12_closes_52 (by decide) ?_
      refine lv_goto (tgt := 57) hx hb dX12_closes_53 (by decide) ?_
      exact x_zretW (v := 1) (u := n_2) hx hb hr hQ rfl ⟨by omega, by omega, by first | exact Or.inl (by omega) | exact Or.inr ⟨by omega, by omega, r_3.toInt, hmk, by omega⟩⟩ hP hD hK hS dX12_closes_57 hlocks
    · have kc_7 : r_3.toInt ≠ 20 := by have h9 := c_7; simp only [ge_iff_le, gt_iff_lt, x_lt, x_le, x_eq, ne_eq, Int32.not_lt, Int32.not_le] at h9; simp only [Int32.reduceToInt] at h9; omega
      refine lv_iload_n hx hb dX12_closes_22 rfl (lv_at hl 0 rfl) ?_
      refine lv_bipush (v := 23) hx hb dX12_closes_23 (by decide) ?_
      refine lv_icmp_eq (tgt := 52) hx hb dX12_closes_25 (by decide) (fun c_8 => ?_) (fun c_8 => ?_)
      · have kc_8 : r_3.toInt = 23 := by have h9 := c_8; simp only [ge_iff_le, gt_iff_lt, x_lt, x_le, x_eq, ne_eq, Int32.not_lt, Int32.not_le] at h9; simp only [Int32.reduceToInt] at h9; omega
        refine lv_iconst (v := 1) hx hb dX12_closes_52 (by decide) ?_
        refine lv_goto (tgt := 57) hx hb dX12_closes_53 (by decide) ?_
        exact x_zretW (v := 1) (u := n_2) hx hb hr hQ rfl ⟨by omega, by omega, by first | exact Or.inl (by omega) | exact Or.inr ⟨by omega, by omega, r_3.toInt, hmk, by omega⟩⟩ hP hD hK hS dX12_closes_57 hlocks
      · have kc_8 : r_3.toInt ≠ 23 := by have h9 := c_8; simp only [ge_iff_le, gt_iff_lt, x_lt, x_le, x_eq, ne_eq, Int32.not_lt, Int32.not_le] at h9; simp only [Int32.reduceToInt] at h9; omega
        refine lv_iload_n hx hb dX12_closes_28 rfl (lv_at hl 0 rfl) ?_
        refine lv_bipush (v := 24) hx hb dX12_closes_29 (by decide) ?_
        refine lv_icmp_eq (tgt := 52) hx hb dX12_closes_31 (by decide) (fun c_9 => ?_) (fun c_9 => ?_)
        · have kc_9 : r_3.toInt = 24 := by have h9 := c_9; simp only [ge_iff_le, gt_iff_lt, x_lt, x_le, x_eq, ne_eq, Int32.not_lt, Int32.not_le] at h9; simp only [Int32.reduceToInt] at h9; omega
          refine lv_iconst (v := 1) hx hb dX12_closes_52 (by decide) ?_
          refine lv_goto (tgt := 57) hx hb dX12_closes_53 (by decide) ?_
          exact x_zretW (v := 1) (u := n_2) hx hb hr hQ rfl ⟨by omega, by omega, by first | exact Or.inl (by omega) | exact Or.inr ⟨by omega, by omega, r_3.toInt, hmk, by omega⟩⟩ hP hD hK hS dX12_closes_57 hlocks
        · have kc_9 : r_3.toInt ≠ 24 := by have h9 := c_9; simp only [ge_iff_le, gt_iff_lt, x_lt, x_le, x_eq, ne_eq, Int32.not_lt, Int32.not_le] at h9; simp only [Int32.reduceToInt] at h9; omega
          refine lv_iload_n hx hb dX12_closes_34 rfl (lv_at hl 0 rfl) ?_
          refine lv_bipush (v := 25) hx hb dX12_closes_35 (by decide) ?_
          refine lv_icmp_eq (tgt := 52) hx hb dX12_closes_37 (by decide) (fun c_10 => ?_) (fun c_10 => ?_)
          · have kc_10 : r_3.toInt = 25 := by have h9 := c_10; simp only [ge_iff_le, gt_iff_lt, x_lt, x_le, x_eq, ne_eq, Int32.not_lt, Int32.not_le] at h9; simp only [Int32.reduceToInt] at h9; omega
            refine lv_iconst (v := 1) hx hb dX12_closes_52 (by decide) ?_
            refine lv_goto (tgt := 57) hx hb dX12_closes_53 (by decide) ?_
            exact x_zretW (v := 1) (u := n_2) hx hb hr hQ rfl ⟨by omega, by omega, by first | exact Or.inl (by omega) | exact Or.inr ⟨by omega, by omega, r_3.toInt, hmk, by omega⟩⟩ hP hD hK hS dX12_closes_57 hlocks
          · have kc_10 : r_3.toInt ≠ 25 := by have h9 := c_10; simp only [ge_iff_le, gt_iff_lt, x_lt, x_le, x_eq, ne_eq, Int32.not_lt, Int32.not_le] at h9; simp only [Int32.reduceToInt] at h9; omega
            refine lv_iload_n hx hb dX12_closes_40 rfl (lv_at hl 1 rfl) ?_
            refine lv_bipush (v := 93) hx hb dX12_closes_41 (by decide) ?_
            refine lv_icmp_ne (tgt := 56) hx hb dX12_closes_43 (by decide) (fun c_11 => ?_) (fun c_11 => ?_)
            · have kc_11 : r_1.toInt ≠ 93 := by have h9 := c_11; simp only [ge_iff_le, gt_iff_lt, x_lt, x_le, x_eq, ne_eq, Int32.not_lt, Int32.not_le] at h9; simp only [Int32.reduceToInt] at h9; omega
              refine lv_iconst (v := 0) hx hb dX12_closes_56 (by decide) ?_
              exact x_zretW (v := 0) (u := n_2) hx hb hr hQ rfl ⟨by omega, by omega, by first | exact Or.inl (by omega) | exact Or.inr ⟨by omega, by omega, r_3.toInt, hmk, by omega⟩⟩ hP hD hK hS dX12_closes_57 hlocks
            · have kc_11 : r_1.toInt = 93 := by have h9 := c_11; simp only [ge_iff_le, gt_iff_lt, x_lt, x_le, x_eq, ne_eq, Int32.not_lt, Int32.not_le] at h9; simp only [Int32.reduceToInt] at h9; omega
              refine lv_iload_n hx hb dX12_closes_46 rfl (lv_at hl 0 rfl) ?_
              refine lv_bipush (v := 26) hx hb dX12_closes_47 (by decide) ?_
              refine lv_icmp_lt (tgt := 56) hx hb dX12_closes_49 (by decide) (fun c_12 => ?_) (fun c_12 => ?_)
              · have kc_12 : r_3.toInt < 26 := by have h9 := c_12; simp only [ge_iff_le, gt_iff_lt, x_lt, x_le, x_eq, ne_eq, Int32.not_lt, Int32.not_le] at h9; simp only [Int32.reduceToInt] at h9; omega
                refine lv_iconst (v := 0) hx hb dX12_closes_56 (by decide) ?_
                exact x_zretW (v := 0) (u := n_2) hx hb hr hQ rfl ⟨by omega, by omega, by first | exact Or.inl (by omega) | exact Or.inr ⟨by omega, by omega, r_3.toInt, hmk, by omega⟩⟩ hP hD hK hS dX12_closes_57 hlocks
              · have kc_12 : r_3.toInt ≥ 26 := by have h9 := c_12; simp only [ge_iff_le, gt_iff_lt, x_lt, x_le, x_eq, ne_eq, Int32.not_lt, Int32.not_le] at h9; simp only [Int32.reduceToInt] at h9; omega
                refine lv_iconst (v := 1) hx hb dX12_closes_52 (by decide) ?_
                refine lv_goto (tgt := 57) hx hb dX12_closes_53 (by decide) ?_
                exact x_zretW (v := 1) (u := n_2) hx hb hr hQ rfl ⟨by omega, by omega, by first | exact Or.inl (by omega) | exact Or.inr ⟨by omega, by omega, r_3.toInt, hmk, by omega⟩⟩ hP hD hK hS dX12_closes_57 hlocks

