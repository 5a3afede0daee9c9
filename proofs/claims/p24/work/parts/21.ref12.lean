theorem dX12_groups_0 : decode cX12_groups 0 = .ok (.aload_n 0, 1) := by decide +kernel
theorem dX12_groups_1 : decode cX12_groups 1 = .ok (.getfield 371, 3) := by decide +kernel
theorem dX12_groups_4 : decode cX12_groups 4 = .ok (.ifCond .ne 5, 3) := by decide +kernel
theorem dX12_groups_7 : decode cX12_groups 7 = .ok (.iconst (-1), 1) := by decide +kernel
theorem dX12_groups_8 : decode cX12_groups 8 = .ok (.ireturn, 1) := by decide +kernel
theorem dX12_groups_9 : decode cX12_groups 9 = .ok (.aload_n 0, 1) := by decide +kernel
theorem dX12_groups_10 : decode cX12_groups 10 = .ok (.aload_n 0, 1) := by decide +kernel
theorem dX12_groups_11 : decode cX12_groups 11 = .ok (.getfield 60, 3) := by decide +kernel
theorem dX12_groups_14 : decode cX12_groups 14 = .ok (.iconst 5, 1) := by decide +kernel
theorem dX12_groups_15 : decode cX12_groups 15 = .ok (.iaload, 1) := by decide +kernel
theorem dX12_groups_16 : decode cX12_groups 16 = .ok (.putfield 488, 3) := by decide +kernel
theorem dX12_groups_19 : decode cX12_groups 19 = .ok (.iconst 0, 1) := by decide +kernel
theorem dX12_groups_20 : decode cX12_groups 20 = .ok (.istore_n 1, 1) := by decide +kernel
theorem dX12_groups_21 : decode cX12_groups 21 = .ok (.iload_n 1, 1) := by decide +kernel
theorem dX12_groups_22 : decode cX12_groups 22 = .ok (.bipush 8, 2) := by decide +kernel
theorem dX12_groups_24 : decode cX12_groups 24 = .ok (.if_icmp .ge 16, 3) := by decide +kernel
theorem dX12_groups_27 : decode cX12_groups 27 = .ok (.aload_n 0, 1) := by decide +kernel
theorem dX12_groups_28 : decode cX12_groups 28 = .ok (.getfield 179, 3) := by decide +kernel
theorem dX12_groups_31 : decode cX12_groups 31 = .ok (.iload_n 1, 1) := by decide +kernel
theorem dX12_groups_32 : decode cX12_groups 32 = .ok (.iconst 0, 1) := by decide +kernel
theorem dX12_groups_33 : decode cX12_groups 33 = .ok (.iastore, 1) := by decide +kernel
theorem dX12_groups_34 : decode cX12_groups 34 = .ok (.iinc 1 1, 3) := by decide +kernel
theorem dX12_groups_37 : decode cX12_groups 37 = .ok (.goto (-16), 3) := by decide +kernel
theorem dX12_groups_40 : decode cX12_groups 40 = .ok (.iconst 0, 1) := by decide +kernel
theorem dX12_groups_41 : decode cX12_groups 41 = .ok (.istore_n 1, 1) := by decide +kernel
theorem dX12_groups_42 : decode cX12_groups 42 = .ok (.iload_n 1, 1) := by decide +kernel
theorem dX12_groups_43 : decode cX12_groups 43 = .ok (.aload_n 0, 1) := by decide +kernel
theorem dX12_groups_44 : decode cX12_groups 44 = .ok (.getfield 145, 3) := by decide +kernel
theorem dX12_groups_47 : decode cX12_groups 47 = .ok (.iconst 0, 1) := by decide +kernel
theorem dX12_groups_48 : decode cX12_groups 48 = .ok (.iaload, 1) := by decide +kernel
theorem dX12_groups_49 : decode cX12_groups 49 = .ok (.if_icmp .ge 50, 3) := by decide +kernel
theorem dX12_groups_52 : decode cX12_groups 52 = .ok (.aload_n 0, 1) := by decide +kernel
theorem dX12_groups_53 : decode cX12_groups 53 = .ok (.iload_n 1, 1) := by decide +kernel
theorem dX12_groups_54 : decode cX12_groups 54 = .ok (.invokevirtual 484, 3) := by decide +kernel
theorem dX12_groups_57 : decode cX12_groups 57 = .ok (.istore_n 2, 1) := by decide +kernel
theorem dX12_groups_58 : decode cX12_groups 58 = .ok (.iconst 0, 1) := by decide +kernel
theorem dX12_groups_59 : decode cX12_groups 59 = .ok (.istore_n 3, 1) := by decide +kernel
theorem dX12_groups_60 : decode cX12_groups 60 = .ok (.iload_n 3, 1) := by decide +kernel
theorem dX12_groups_61 : decode cX12_groups 61 = .ok (.aload_n 0, 1) := by decide +kernel
theorem dX12_groups_62 : decode cX12_groups 62 = .ok (.getfield 488, 3) := by decide +kernel
theorem dX12_groups_65 : decode cX12_groups 65 = .ok (.if_icmp .ge 28, 3) := by decide +kernel
theorem dX12_groups_68 : decode cX12_groups 68 = .ok (.iload_n 2, 1) := by decide +kernel
theorem dX12_groups_69 : decode cX12_groups 69 = .ok (.iload_n 3, 1) := by decide +kernel
theorem dX12_groups_70 : decode cX12_groups 70 = .ok (.ishr, 1) := by decide +kernel
theorem dX12_groups_71 : decode cX12_groups 71 = .ok (.iconst 1, 1) := by decide +kernel
theorem dX12_groups_72 : decode cX12_groups 72 = .ok (.iand, 1) := by decide +kernel
theorem dX12_groups_73 : decode cX12_groups 73 = .ok (.iconst 1, 1) := by decide +kernel
theorem dX12_groups_74 : decode cX12_groups 74 = .ok (.if_icmp .ne 13, 3) := by decide +kernel
theorem dX12_groups_77 : decode cX12_groups 77 = .ok (.aload_n 0, 1) := by decide +kernel
theorem dX12_groups_78 : decode cX12_groups 78 = .ok (.getfield 179, 3) := by decide +kernel
theorem dX12_groups_81 : decode cX12_groups 81 = .ok (.iload_n 3, 1) := by decide +kernel
theorem dX12_groups_82 : decode cX12_groups 82 = .ok (.dup2, 1) := by decide +kernel
theorem dX12_groups_83 : decode cX12_groups 83 = .ok (.iaload, 1) := by decide +kernel
theorem dX12_groups_84 : decode cX12_groups 84 = .ok (.iload_n 2, 1) := by decide +kernel
theorem dX12_groups_85 : decode cX12_groups 85 = .ok (.ior, 1) := by decide +kernel
theorem dX12_groups_86 : decode cX12_groups 86 = .ok (.iastore, 1) := by decide +kernel
theorem dX12_groups_87 : decode cX12_groups 87 = .ok (.iinc 3 1, 3) := by decide +kernel
theorem dX12_groups_90 : decode cX12_groups 90 = .ok (.goto (-30), 3) := by decide +kernel
theorem dX12_groups_93 : decode cX12_groups 93 = .ok (.iinc 1 1, 3) := by decide +kernel
theorem dX12_groups_96 : decode cX12_groups 96 = .ok (.goto (-54), 3) := by decide +kernel
theorem dX12_groups_99 : decode cX12_groups 99 = .ok (.aload_n 0, 1) := by decide +kernel
theorem dX12_groups_100 : decode cX12_groups 100 = .ok (.iconst 1, 1) := by decide +kernel
theorem dX12_groups_101 : decode cX12_groups 101 = .ok (.putfield 375, 3) := by decide +kernel
theorem dX12_groups_104 : decode cX12_groups 104 = .ok (.iconst 0, 1) := by decide +kernel
theorem dX12_groups_105 : decode cX12_groups 105 = .ok (.istore_n 1, 1) := by decide +kernel
theorem dX12_groups_106 : decode cX12_groups 106 = .ok (.aload_n 0, 1) := by decide +kernel
theorem dX12_groups_107 : decode cX12_groups 107 = .ok (.iload_n 1, 1) := by decide +kernel
theorem dX12_groups_108 : decode cX12_groups 108 = .ok (.invokevirtual 494, 3) := by decide +kernel
theorem dX12_groups_111 : decode cX12_groups 111 = .ok (.ifCond .ne 9, 3) := by decide +kernel
theorem dX12_groups_114 : decode cX12_groups 114 = .ok (.iinc 1 1, 3) := by decide +kernel
theorem dX12_groups_117 : decode cX12_groups 117 = .ok (.goto (-11), 3) := by decide +kernel
theorem dX12_groups_120 : decode cX12_groups 120 = .ok (.iload_n 1, 1) := by decide +kernel
theorem dX12_groups_121 : decode cX12_groups 121 = .ok (.ireturn, 1) := by decide +kernel
def v_q_groups : List Cond := .code yX12_groups cX12_groups 4 (some .int) :: ([.fieldLink RX12 371 "SlopeRunnerModel" "hasRun" "Z", .fieldLink RX12 60 "SlopeRunnerModel" "has" "[I", .fieldLink RX12 488 "SlopeRunnerModel" "groupInputs" "I", .fieldLink RX12 145 "SlopeRunnerModel" "results" "[I", .fieldLink RX12 375 "SlopeRunnerModel" "hasGroups" "Z", .fieldLink RX12 179 "SlopeRunnerModel" "apart" "[I"] ++ ((wsV RX12 494 RX12 yX12_parts v_q_parts) ++ ((wsV RX12 484 RX12 yX12_movesOf v_q_movesOf) ++ wsX120)))
theorem g_q_groups_0 : GoodIn v_q_groups (wsV RX12 494 RX12 yX12_parts v_q_parts) := goodIn_sub (fun w h => List.mem_cons_of_mem _ (List.mem_append_right _ (List.mem_append_left _ h))) (by decide +kernel)
theorem g_q_groups_1 : GoodIn v_q_groups (wsV RX12 484 RX12 yX12_movesOf v_q_movesOf) := goodIn_sub (fun w h => List.mem_cons_of_mem _ (List.mem_append_right _ (List.mem_append_right _ (List.mem_append_left _ h)))) (by decide +kernel)
set_option maxHeartbeats 4000000 in
set_option maxRecDepth 100000 in
theorem q_groups (l : Launch) (D : va_G) (y : Nat → ClassId) (sz : Nat) (ad : Nat → Nat) (zw : Nat → Nat → Int32) (σ : OS) (hg0 : 0 ≤ (σ.1 79).toInt) (hg1 : (σ.1 79).toInt ≤ 8) (h5 : 0 ≤ (σ.2.2.1 24 5).toInt ∧ (σ.2.2.1 24 5).toInt ≤ 8) (hop : opc (σ.2.2.1 59) (σ.2.2.1 60) (σ.2.2.1 61)) (hB80 : bI (σ.2.2.1 80) (-1) 9) (hB62 : bI (σ.2.2.1 62) 0 1760) (hB65 : bI (σ.2.2.1 65) 0 1759) (hB64 : bI (σ.2.2.1 64) 0 12) : Met l yX12_groups v_q_groups ({ frames := 2, cells := 0, slots := 0, locals := 46 } : Room) (va_Pc [.ref (ad 1)] (xPre D (xT y) (mwd y ad zw σ) sz)) (va_Qi (fun (r : Int32) (u : Int32 × (Nat → Int32) × Int32 × (Nat → Int32) × (Nat → Int32)) => (0 ≤ u.1.toInt ∧ u.1.toInt ≤ 8) ∧ bI u.2.2.2.2 (-1) 9) (fun (u : Int32 × (Nat → Int32) × Int32 × (Nat → Int32) × (Nat → Int32)) => xB D (xT y) (va_A (mwd y ad zw σ) sz) (mwd y ad zw (tI (tI (sI (tI (sI σ 79 u.1) 81 u.2.1) 78 u.2.2.1) 74 u.2.2.2.1) 80 u.2.2.2.2))) (va_A (mwd y ad zw σ) sz)) 0 0 (va_A (mwd y ad zw σ) sz) := by
  refine x_meti (cc := cX12_groups) (maxL := 4) (by decide) rfl (Nat.le_of_ble_eq_true rfl) ?_
  intro p e s m below meth c A H locs Q hx hb hml hown hts hr hlocks hmn hA hP hK hD hS ls hl hQ
  have hl : lv_has ls 4 [(0, .ref (ad 1))] := hl
  have fl371 := hts (.fieldLink RX12 371 "SlopeRunnerModel" "hasRun" "Z") (List.mem_of_getElem? (i := 1) rfl)
  have inX12 : ∀ w ∈ wsX120, w ∈ v_q_groups := (fun w h => List.mem_cons_of_mem _ (List.mem_append_right _ (List.mem_append_right _ (List.mem_append_right _ h))))
  have kk_0 : (0 : Int32).toInt = 0 := rfl
  have fl60 := hts (.fieldLink RX12 60 "SlopeRunnerModel" "has" "[I") (List.mem_of_getElem? (i := 2) rfl)
  have fl488 := hts (.fieldLink RX12 488 "SlopeRunnerModel" "groupInputs" "I") (List.mem_of_getElem? (i := 3) rfl)
  have kk_8 : (8 : Int32).toInt = 8 := rfl
  have fl145 := hts (.fieldLink RX12 145 "SlopeRunnerModel" "results" "[I") (List.mem_of_getElem? (i := 4) rfl)
  have fl375 := hts (.fieldLink RX12 375 "SlopeRunnerModel" "hasGroups" "Z") (List.mem_of_getElem? (i := 5) rfl)
  have kk_1 : (1 : Int32).toInt = 1 := rfl
  have fl179 := hts (.fieldLink RX12 179 "SlopeRunnerModel" "apart" "[I") (List.mem_of_getElem? (i := 6) rfl)
  have kk_m1 : ((-1) : Int32).toInt = -1 := rfl
  refine lv_aload_n hx hb dX12_groups_0 rfl (lv_at hl 0 rfl) ?_
  refine va_get (D := D) (ci := 11) (v := .int (σ.1 54)) (C := RX12) (T := TX12) (N := 85) hx hb hts inX12 hown hK hP 0 mwd_o0 rfl 54 (by decide) fl371 (fun _ h9 => h9) rfl dX12_groups_1 ?_
  refine lv_if_ne (tgt := 9) hx hb dX12_groups_4 (by decide) (fun c_1 => ?_) (fun c_1 => ?_)
  · have kc_1 : (σ.1 54).toInt ≠ 0 := by have h9 := c_1; simp only [ge_iff_le, gt_iff_lt, x_lt, x_le, x_eq, ne_eq, Int32.not_lt, Int32.not_le] at h9; simp only [Int32.reduceToInt] at h9; omega
    refine lv_aload_n hx hb dX12_groups_9 rfl (lv_at hl 0 rfl) ?_
    refine lv_aload_n hx hb dX12_groups_10 rfl (lv_at hl 0 rfl) ?_
    refine va_get (D := D) (ci := 11) (v := .ref (ad 24)) (C := RX12) (T := TX12) (N := 85) hx hb hts inX12 hown hK hP 0 mwd_o0 rfl 24 (by decide) fl60 (fun _ h9 => h9) rfl dX12_groups_11 ?_
    refine lv_iconst (v := 5) hx hb dX12_groups_14 (by decide) ?_
    refine va_iald hx hb hK hP 16 2 mwd_a16 rfl (x_in (by decide) (by decide)) dX12_groups_15 ?_
    refine lv_topi (fun i_2 ei_2 => ?_)
    have ei_2 : i_2 = (σ.2.2.1 24) (Int32.toNatClampNeg 5) := ei_2
    have gi_2 : 0 ≤ i_2.toInt ∧ i_2.toInt ≤ 8 := by rw [show i_2 = σ.2.2.1 24 5 from ei_2]; exact h5
    refine va_put (D := D) (ci := 11) (v := .int i_2) (ty := .int) (C := RX12) (T := TX12) (N := 85) hx hb hts inX12 tyX12 tyX12_ok nmX12 hown hK hP hD hS 0 mwd_o0 rfl 79 (by decide) fl488 (fun _ h9 => h9) rfl (by decide +kernel) rfl rfl (Nat.le_of_ble_eq_true rfl) dX12_groups_16 (fun H locs hP hD hS => ?_)
    have hP : va_P D vwCl (mwd y ad zw (sI σ 79 i_2)) H := x_trP hP mwd_p0_79
    have hD : va_D A (mwd y ad zw (sI σ 79 i_2)) := x_trD hD mwd_p0_79
    refine lv_iconst (v := 0) hx hb dX12_groups_19 (by decide) ?_
    refine lv_istore_n (lv' := [(1, .int 0), (0, .ref (ad 1))]) hx hb dX12_groups_20 rfl hl (by decide) rfl (fun ls hl => ?_)
    have hP : va_P D vwCl (mwd y ad zw (tI (sI σ 79 i_2) 81 (σ.2.2.1 81))) H := hP
    have hD : va_D A (mwd y ad zw (tI (sI σ 79 i_2) 81 (σ.2.2.1 81))) := hD
    have loop : ∀ (fu : Nat) (j : Int32) (f : Nat → Int32) (H : Heap) (locs : List Loc) (ls : Array Slot), (0 ≤ j.toInt) → (j.toInt ≤ 8) → (8 - j.toInt < (fu : Int)) → va_P D vwCl (mwd y ad zw (tI (sI σ 79 i_2) 81 f)) H → va_D A (mwd y ad zw (tI (sI σ 79 i_2) 81 f)) → va_S A s.heap H locs → lv_has ls 4 [(1, .int j), (0, .ref (ad 1))] → W p l e ({ frames := 2, cells := 0, slots := 0, locals := 46 } : Room) s m ([.ref (ad 1)] : List Value).toArray below meth c H locs 0 0 Q (F0 m 21 ls []) := by
      intro fu
      induction fu with
      | zero =>
        intro j f H locs ls hj0 hj1 hm
        exact absurd hm (by omega)
      | succ fu ih_loop =>
        intro j f H locs ls hj0 hj1 hm hP hD hS hl
        refine lv_iload_n hx hb dX12_groups_21 rfl (lv_at hl 0 rfl) ?_
        refine lv_bipush (v := 8) hx hb dX12_groups_22 (by decide) ?_
        refine lv_icmp_ge (tgt := 40) hx hb dX12_groups_24 (by decide) (fun c_3 => ?_) (fun c_3 => ?_)
        · have kc_3 : j.toInt ≥ 8 := by have h9 := c_3; simp only [ge_iff_le, gt_iff_lt, x_lt, x_le, x_eq, ne_eq, Int32.not_lt, Int32.not_le] at h9; simp only [Int32.reduceToInt] at h9; omega
          refine lv_iconst (v := 0) hx hb dX12_groups_40 (by decide) ?_
          refine lv_istore_n (lv' := [(1, .int 0), (0, .ref (ad 1))]) hx hb dX12_groups_41 rfl hl (by decide) rfl (fun ls hl => ?_)
          have hP : va_P D vwCl (mwd y ad zw (tI (tI (sI σ 79 i_2) 81 f) 74 (σ.2.2.1 74))) H := hP
          have hD : va_D A (mwd y ad zw (tI (tI (sI σ 79 i_2) 81 f) 74 (σ.2.2.1 74))) := hD
          have loop2 : ∀ (fu : Nat) (j : Int32) (f : Nat → Int32) (fh : Nat → Int32) (H : Heap) (locs : List Loc) (ls : Array Slot), (0 ≤ j.toInt) → (j.toInt ≤ 12) → (12 - j.toInt < (fu : Int)) → va_P D vwCl (mwd y ad zw (tI (tI (sI σ 79 i_2) 81 f) 74 fh)) H → va_D A (mwd y ad zw (tI (tI (sI σ 79 i_2) 81 f) 74 fh)) → va_S A s.heap H locs → lv_has ls 4 [(1, .int j), (0, .ref (ad 1))] → W p l e ({ frames := 2, cells := 0, slots := 0, locals := 46 } : Room) s m ([.ref (ad 1)] : List Value).toArray below meth c H locs 0 0 Q (F0 m 42 ls []) := by
            intro fu
            induction fu with
            | zero =>
              intro j f fh H locs ls hj0 hj1 hm
              exact absurd hm (by omega)
            | succ fu ih_loop2 =>
              intro j f fh H locs ls hj0 hj1 hm hP hD hS hl
              refine lv_iload_n hx hb dX12_groups_42 rfl (lv_at hl 0 rfl) ?_
              refine lv_aload_n hx hb dX12_groups_43 rfl (lv_at hl 1 rfl) ?_
              refine va_get (D := D) (ci := 11) (v := .ref (ad 64)) (C := RX12) (T := TX12) (N := 85) hx hb hts inX12 hown hK hP 0 mwd_o0 rfl 64 (by decide) fl145 (fun _ h9 => h9) rfl dX12_groups_44 ?_
              refine lv_iconst (v := 0) hx hb dX12_groups_47 (by decide) ?_
              refine va_iald hx hb hK hP 44 2 mwd_a44 rfl (x_in (by decide) (by decide)) dX12_groups_48 ?_
              refine lv_topi (fun i_4 ei_4 => ?_)
              have ei_4 : i_4 = (σ.2.2.1 64) (Int32.toNatClampNeg 0) := ei_4
              have bi_4 := b_at hB64 ei_4
              refine lv_icmp_ge (tgt := 99) hx hb dX12_groups_49 (by decide) (fun c_5 => ?_) (fun c_5 => ?_)
              · have kc_5 : j.toInt ≥ i_4.toInt := by have h9 := c_5; simp only [ge_iff_le, gt_iff_lt, x_lt, x_le, x_eq, ne_eq, Int32.not_lt, Int32.not_le] at h9; omega
                refine lv_aload_n hx hb dX12_groups_99 rfl (lv_at hl 1 rfl) ?_
                refine lv_iconst (v := 1) hx hb dX12_groups_100 (by decide) ?_
                refine va_put (D := D) (ci := 11) (v := .int 1) (ty := .boolean) (C := RX12) (T := TX12) (N := 85) hx hb hts inX12 tyX12 tyX12_ok nmX12 hown hK hP hD hS 0 mwd_o0 rfl 78 (by decide) fl375 (fun _ h9 => h9) rfl (by decide +kernel) rfl rfl (Nat.le_of_ble_eq_true rfl) dX12_groups_101 (fun H locs hP hD hS => ?_)
                have hP : va_P D vwCl (mwd y ad zw (sI (tI (tI (sI σ 79 i_2) 81 f) 74 fh) 78 1)) H := x_trP hP mwd_p0_78
                have hD : va_D A (mwd y ad zw (sI (tI (tI (sI σ 79 i_2) 81 f) 74 fh) 78 1)) := x_trD hD mwd_p0_78
                refine lv_iconst (v := 0) hx hb dX12_groups_104 (by decide) ?_
                refine lv_istore_n (lv' := [(1, .int 0), (0, .ref (ad 1))]) hx hb dX12_groups_105 rfl hl (by decide) rfl (fun ls hl => ?_)
                have hP : va_P D vwCl (mwd y ad zw (tI (sI (tI (tI (sI σ 79 i_2) 81 f) 74 fh) 78 1) 80 (σ.2.2.1 80))) H := hP
                have hD : va_D A (mwd y ad zw (tI (sI (tI (tI (sI σ 79 i_2) 81 f) 74 fh) 78 1) 80 (σ.2.2.1 80))) := hD
                have loop4 : ∀ (fu : Nat) (mn : Int32) (g : Nat → Int32) (H : Heap) (locs : List Loc) (ls : Array Slot), (0 ≤ mn.toInt) → (mn.toInt ≤ i_2.toInt) → (bI g (-1) 9) → (i_2.toInt - mn.toInt < (fu : Int)) → va_P D vwCl (mwd y ad zw (tI (sI (tI (tI (sI σ 79 i_2) 81 f) 74 fh) 78 1) 80 g)) H → va_D A (mwd y ad zw (tI (sI (tI (tI (sI σ 79 i_2) 81 f) 74 fh) 78 1) 80 g)) → va_S A s.heap H locs → lv_has ls 4 [(1, .int mn), (0, .ref (ad 1))] → W p l e ({ frames := 2, cells := 0, slots := 0, locals := 46 } : Room) s m ([.ref (ad 1)] : List Value).toArray below meth c H locs 0 0 Q (F0 m 106 ls []) := by
                  intro fu
                  induction fu with
                  | zero =>
                    intro mn g H locs ls hm0 hm1 hg hm
                    exact absurd hm (by omega)
                  | succ fu ih_loop4 =>
                    intro mn g H locs ls hm0 hm1 hg hm hP hD hS hl
                    refine lv_aload_n hx hb dX12_groups_106 rfl (lv_at hl 1 rfl) ?_
                    refine lv_iload_n hx hb dX12_groups_107 rfl (lv_at hl 0 rfl) ?_
                    refine x_calliW (va_runV (As := [.int mn]) (rest := []) ⟨hx, hb, hml, hown, hts⟩ (q_parts l D y H.size ad zw (tI (sI (tI (tI (sI σ 79 i_2) 81 f) 74 fh) 78 1) 80 g) mn (show 0 ≤ (i_2).toInt from by first | omega | decide) (show (i_2).toInt ≤ 8 from by first | omega | decide) hg) (cwV 1 hts g_q_groups_0 rfl rfl rfl (by decide +kernel) ⟨Nat.le_of_ble_eq_true rfl, Nat.le_of_ble_eq_true rfl⟩) (x_preV (q := (RX12, TX12, 85)) hK hP hD (ci := 11) (q0 := 0) rfl mwd_o0) rfl rfl hl.1 rfl (lv_room (Nat.le_of_ble_eq_true rfl)) dX12_groups_108 ⟨Nat.le_of_ble_eq_true rfl, Nat.le_of_ble_eq_true rfl⟩) hP hD hS hA (fun r_6 u H locs hw hP hD hS => ?_)
                    obtain ⟨f_7, rfl⟩ : ∃ z9, z9 = u := ⟨_, rfl⟩
                    try dsimp only at hw
                    have hP : va_P D vwCl (mwd y ad zw (tI (tI (sI (tI (tI (sI σ 79 i_2) 81 f) 74 fh) 78 1) 80 g) 80 f_7)) H := hP
                    have hD : va_D A (mwd y ad zw (tI (tI (sI (tI (tI (sI σ 79 i_2) 81 f) 74 fh) 78 1) 80 g) 80 f_7)) := hD
                    have hw : ((r_6.toInt = 0 ∨ r_6.toInt = 1) ∧ ((i_2).toInt ≤ mn.toInt → r_6.toInt = 1)) ∧ bI f_7 (-1) 9 := hw
                    obtain ⟨hw, hg_8⟩ := hw
                    refine lv_if_ne (tgt := 120) hx hb dX12_groups_111 (by decide) (fun c_9 => ?_) (fun c_9 => ?_)
                    · have kc_9 : r_6.toInt ≠ 0 := by have h9 := c_9; simp only [ge_iff_le, gt_iff_lt, x_lt, x_le, x_eq, ne_eq, Int32.not_lt, Int32.not_le] at h9; simp only [Int32.reduceToInt] at h9; omega
                      refine lv_iload_n hx hb dX12_groups_120 rfl (lv_at hl 0 rfl) ?_
                      have hP : va_P D vwCl (mwd y ad zw (tI (tI (sI (tI (sI σ 79 i_2) 81 f) 78 1) 74 fh) 80 f_7)) H := hP
                      have hD : va_D A (mwd y ad zw (tI (tI (sI (tI (sI σ 79 i_2) 81 f) 78 1) 74 fh) 80 f_7)) := hD
                      exact x_iretW (v := mn) (u := (i_2, f, 1, fh, f_7)) hx hb hr hQ (by (try dsimp only); exact ⟨⟨by omega, by omega⟩, hg_8⟩) hP hD hK hS dX12_groups_121 hlocks
                    · have kc_9 : r_6.toInt = 0 := by have h9 := c_9; simp only [ge_iff_le, gt_iff_lt, x_lt, x_le, x_eq, ne_eq, Int32.not_lt, Int32.not_le] at h9; simp only [Int32.reduceToInt] at h9; omega
                      obtain ⟨i_10, ei_10⟩ : ∃ z9 : Int32, z9 = mn + 1 := ⟨_, rfl⟩
                      have vi_10 : i_10.toInt = mn.toInt + 1 := by have h9 := x_add ei_10 (by omega) (by omega); omega
                      refine lv_iinc (v := i_10) (lv' := [(1, .int i_10), (0, .ref (ad 1))]) hx hb dX12_groups_114 hl (k := 0) rfl (by rw [ei_10]; rfl) (by decide) rfl (fun ls hl => ?_)
                      refine lv_goto (tgt := 106) hx hb dX12_groups_117 (by decide) ?_
                      have hP : va_P D vwCl (mwd y ad zw (tI (sI (tI (tI (sI σ 79 i_2) 81 f) 74 fh) 78 1) 80 f_7)) H := hP
                      have hD : va_D A (mwd y ad zw (tI (sI (tI (tI (sI σ 79 i_2) 81 f) 74 fh) 78 1) 80 f_7)) := hD
                      exact ih_loop4 i_10 f_7 H locs ls (by omega) (by omega) hg_8 (by omega) hP hD hS (lv_sub hl [0, 1] rfl)
                exact loop4 9 0 (σ.2.2.1 80) H locs ls (by decide) (by have h7 : (0 : Int32).toInt = 0 := rfl; omega) hB80 (by have h7 : (0 : Int32).toInt = 0 := rfl; omega) hP hD hS (lv_sub hl [0, 1] rfl)
              · have kc_5 : j.toInt < i_4.toInt := by have h9 := c_5; simp only [ge_iff_le, gt_iff_lt, x_lt, x_le, x_eq, ne_eq, Int32.not_lt, Int32.not_le] at h9; omega
                refine lv_aload_n hx hb dX12_groups_52 rfl (lv_at hl 1 rfl) ?_
                refine lv_iload_n hx hb dX12_groups_53 rfl (lv_at hl 0 rfl) ?_
                refine x_calliW (va_runV (As := [.int j]) (rest := []) ⟨hx, hb, hml, hown, hts⟩ (q_movesOf l D y H.size ad zw (tI (tI (sI σ 79 i_2) 81 f) 74 fh) j (by first | omega | decide) (by first | omega | decide) h5 hop hB62 hB65) (cwV 1 hts g_q_groups_1 rfl rfl rfl (by decide +kernel) ⟨Nat.le_of_ble_eq_true rfl, Nat.le_of_ble_eq_true rfl⟩) (x_preV (q := (RX12, TX12, 85)) hK hP hD (ci := 11) (q0 := 0) rfl mwd_o0) rfl rfl hl.1 rfl (lv_room (Nat.le_of_ble_eq_true rfl)) dX12_groups_54 ⟨Nat.le_of_ble_eq_true rfl, Nat.le_of_ble_eq_true rfl⟩) hP hD hS hA (fun r_11 u H locs hw hP hD hS => ?_)
                obtain ⟨f_12, rfl⟩ : ∃ z9, z9 = u := ⟨_, rfl⟩
                try dsimp only at hw
                have hP : va_P D vwCl (mwd y ad zw (tI (tI (tI (sI σ 79 i_2) 81 f) 74 fh) 74 f_12)) H := hP
                have hD : va_D A (mwd y ad zw (tI (tI (tI (sI σ 79 i_2) 81 f) 74 fh) 74 f_12)) := hD
                refine lv_istore_n (lv' := [(2, .int r_11), (1, .int j), (0, .ref (ad 1))]) hx hb dX12_groups_57 rfl hl (by decide) rfl (fun ls hl => ?_)
                refine lv_iconst (v := 0) hx hb dX12_groups_58 (by decide) ?_
                refine lv_istore_n (lv' := [(3, .int 0), (2, .int r_11), (1, .int j), (0, .ref (ad 1))]) hx hb dX12_groups_59 rfl hl (by decide) rfl (fun ls hl => ?_)
                have hP : va_P D vwCl (mwd y ad zw (tI (tI (sI σ 79 i_2) 74 f_12) 81 f)) H := hP
                have hD : va_D A (mwd y ad zw (tI (tI (sI σ 79 i_2) 74 f_12) 81 f)) := hD
                have loop3 : ∀ (fu : Nat) (k : Int32) (f : Nat → Int32) (H : Heap) (locs : List Loc) (ls : Array Slot), (0 ≤ k.toInt) → (k.toInt ≤ 8) → (8 - k.toInt < (fu : Int)) → va_P D vwCl (mwd y ad zw (tI (tI (sI σ 79 i_2) 74 f_12) 81 f)) H → va_D A (mwd y ad zw (tI (tI (sI σ 79 i_2) 74 f_12) 81 f)) → va_S A s.heap H locs → lv_has ls 4 [(3, .int k), (2, .int r_11), (1, .int j), (0, .ref (ad 1))] → W p l e ({ frames := 2, cells := 0, slots := 0, locals := 46 } : Room) s m ([.ref (ad 1)] : List Value).toArray below meth c H locs 0 0 Q (F0 m 60 ls []) := by
                  intro fu
                  induction fu with
                  | zero =>
                    intro k f H locs ls hk0 hk1 hm
                    exact absurd hm (by omega)
                  | succ fu ih_loop3 =>
                    intro k f H locs ls hk0 hk1 hm hP hD hS hl
                    refine lv_iload_n hx hb dX12_groups_60 rfl (lv_at hl 0 rfl) ?_
                    refine lv_aload_n hx hb dX12_groups_61 rfl (lv_at hl 3 rfl) ?_
                    refine va_get (D := D) (ci := 11) (v := .int i_2) (C := RX12) (T := TX12) (N := 85) hx hb hts inX12 hown hK hP 0 mwd_o0 rfl 79 (by decide) fl488 (fun _ h9 => h9) rfl dX12_groups_62 ?_
                    refine lv_icmp_ge (tgt := 93) hx hb dX12_groups_65 (by decide) (fun c_13 => ?_) (fun c_13 => ?_)
                    · have kc_13 : k.toInt ≥ i_2.toInt := by have h9 := c_13; simp only [ge_iff_le, gt_iff_lt, x_lt, x_le, x_eq, ne_eq, Int32.not_lt, Int32.not_le] at h9; omega
                      obtain ⟨i_14, ei_14⟩ : ∃ z9 : Int32, z9 = j + 1 := ⟨_, rfl⟩
                      have vi_14 : i_14.toInt = j.toInt + 1 := by have h9 := x_add ei_14 (by omega) (by omega); omega
                      refine lv_iinc (v := i_14) (lv' := [(1, .int i_14), (3, .int k), (2, .int r_11), (0, .ref (ad 1))]) hx hb dX12_groups_93 hl (k := 2) rfl (by rw [ei_14]; rfl) (by decide) rfl (fun ls hl => ?_)
                      refine lv_goto (tgt := 42) hx hb dX12_groups_96 (by decide) ?_
                      have hP : va_P D vwCl (mwd y ad zw (tI (tI (sI σ 79 i_2) 81 f) 74 f_12)) H := hP
                      have hD : va_D A (mwd y ad zw (tI (tI (sI σ 79 i_2) 81 f) 74 f_12)) := hD
                      exact ih_loop2 i_14 f f_12 H locs ls (by omega) (by omega) (by omega) hP hD hS (lv_sub hl [0, 3] rfl)
                    · have kc_13 : k.toInt < i_2.toInt := by have h9 := c_13; simp only [ge_iff_le, gt_iff_lt, x_lt, x_le, x_eq, ne_eq, Int32.not_lt, Int32.not_le] at h9; omega
                      refine lv_iload_n hx hb dX12_groups_68 rfl (lv_at hl 1 rfl) ?_
                      refine lv_iload_n hx hb dX12_groups_69 rfl (lv_at hl 0 rfl) ?_
                      refine lv_ishr hx hb dX12_groups_70 ?_
                      refine lv_topi (fun i_15 ei_15 => ?_)
                      refine lv_iconst (v := 1) hx hb dX12_groups_71 (by decide) ?_
                      refine lv_iand hx hb dX12_groups_72 ?_
                      refine lv_topi (fun i_16 ei_16 => ?_)
                      refine lv_iconst (v := 1) hx hb dX12_groups_73 (by decide) ?_
                      refine lv_icmp_ne (tgt := 87) hx hb dX12_groups_74 (by decide) (fun c_17 => ?_) (fun c_17 => ?_)
                      · have kc_17 : i_16.toInt ≠ 1 := by have h9 := c_17; simp only [ge_iff_le, gt_iff_lt, x_lt, x_le, x_eq, ne_eq, Int32.not_lt, Int32.not_le] at h9; simp only [Int32.reduceToInt] at h9; omega
                        obtain ⟨i_18, ei_18⟩ : ∃ z9 : Int32, z9 = k + 1 := ⟨_, rfl⟩
                        have vi_18 : i_18.toInt = k.toInt + 1 := by have h9 := x_add ei_18 (by omega) (by omega); omega
                        refine lv_iinc (v := i_18) (lv' := [(3, .int i_18), (2, .int r_11), (1, .int j), (0, .ref (ad 1))]) hx hb dX12_groups_87 hl (k := 0) rfl (by rw [ei_18]; rfl) (by decide) rfl (fun ls hl => ?_)
                        refine lv_goto (tgt := 60) hx hb dX12_groups_90 (by decide) ?_
                        exact ih_loop3 i_18 f H locs ls (by omega) (by omega) (by omega) hP hD hS (lv_sub hl [0, 1, 2, 3] rfl)
                      · have kc_17 : i_16.toInt = 1 := by have h9 := c_17; simp only [ge_iff_le, gt_iff_lt, x_lt, x_le, x_eq, ne_eq, Int32.not_lt, Int32.not_le] at h9; simp only [Int32.reduceToInt] at h9; omega
                        refine lv_aload_n hx hb dX12_groups_77 rfl (lv_at hl 3 rfl) ?_
                        refine va_get (D := D) (ci := 11) (v := .ref (ad 81)) (C := RX12) (T := TX12) (N := 85) hx hb hts inX12 hown hK hP 0 mwd_o0 rfl 81 (by decide) fl179 (fun _ h9 => h9) rfl dX12_groups_78 ?_
                        refine lv_iload_n hx hb dX12_groups_81 rfl (lv_at hl 0 rfl) ?_
                        refine lv_dup2_11 hx hb dX12_groups_82 rfl rfl ?_
                        refine va_iald hx hb hK hP 55 2 mwd_a55 rfl (x_in (by omega) (by omega)) dX12_groups_83 ?_
                        refine lv_topi (fun i_19 ei_19 => ?_)
                        have ei_19 : i_19 = f (Int32.toNatClampNeg k) := ei_19
                        refine lv_iload_n hx hb dX12_groups_84 rfl (lv_at hl 1 rfl) ?_
                        refine lv_ior hx hb dX12_groups_85 ?_
                        refine lv_topi (fun i_20 ei_20 => ?_)
                        refine va_iast hx hb hK hP hD hS 55 2 mwd_a55 rfl (x_in (by omega) (by omega)) dX12_groups_86 (fun H locs hP hD hS => ?_)
                        obtain ⟨f_21, ef_21⟩ : ∃ z9 : Nat → Int32, z9 = (upd f (Int32.toNatClampNeg k) i_20) := ⟨_, rfl⟩
                        have hP : va_P D vwCl (mwd y ad zw (tI (tI (tI (sI σ 79 i_2) 74 f_12) 81 f) 81 f_21)) H := by rw [ef_21]; exact x_trP hP mwd_s55
                        have hD : va_D A (mwd y ad zw (tI (tI (tI (sI σ 79 i_2) 74 f_12) 81 f) 81 f_21)) := by rw [ef_21]; exact x_trD hD mwd_s55
                        obtain ⟨i_22, ei_22⟩ : ∃ z9 : Int32, z9 = k + 1 := ⟨_, rfl⟩
                        have vi_22 : i_22.toInt = k.toInt + 1 := by have h9 := x_add ei_22 (by omega) (by omega); omega
                        refine lv_iinc (v := i_22) (lv' := [(3, .int i_22), (2, .int r_11), (1, .int j), (0, .ref (ad 1))]) hx hb dX12_groups_87 hl (k := 0) rfl (by rw [ei_22]; rfl) (by decide) rfl (fun ls hl => ?_)
                        refine lv_goto (tgt := 60) hx hb dX12_groups_90 (by decide) ?_
                        have hP : va_P D vwCl (mwd y ad zw (tI (tI (sI σ 79 i_2) 74 f_12) 81 f_21)) H := hP
                        have hD : va_D A (mwd y ad zw (tI (tI (sI σ 79 i_2) 74 f_12) 81 f_21)) := hD
                        exact ih_loop3 i_22 f_21 H locs ls (by omega) (by omega) (by omega) hP hD hS (lv_sub hl [0, 1, 2, 3] rfl)
                exact loop3 9 0 f H locs ls (by decide) (by decide) (by have h7 : (0 : Int32).toInt = 0 := rfl; omega) hP hD hS (lv_sub hl [0, 1, 2, 3] rfl)
          exact loop2 13 0 f (σ.2.2.1 74) H locs ls (by decide) (by decide) (by have h7 : (0 : Int32).toInt = 0 := rfl; omega) hP hD hS (lv_sub hl [0, 1] rfl)
        · have kc_3 : j.toInt < 8 := by have h9 := c_3; simp only [ge_iff_le, gt_iff_lt, x_lt, x_le, x_eq, ne_eq, Int32.not_lt, Int32.not_le] at h9; simp only [Int32.reduceToInt] at h9; omega
          refine lv_aload_n hx hb dX12_groups_27 rfl (lv_at hl 1 rfl) ?_
          refine va_get (D := D) (ci := 11) (v := .ref (ad 81)) (C := RX12) (T := TX12) (N := 85) hx hb hts inX12 hown hK hP 0 mwd_o0 rfl 81 (by decide) fl179 (fun _ h9 => h9) rfl dX12_groups_28 ?_
          refine lv_iload_n hx hb dX12_groups_31 rfl (lv_at hl 0 rfl) ?_
          refine lv_iconst (v := 0) hx hb dX12_groups_32 (by decide) ?_
          refine va_iast hx hb hK hP hD hS 55 2 mwd_a55 rfl (x_in (by omega) (by omega)) dX12_groups_33 (fun H locs hP hD hS => ?_)
          obtain ⟨f_23, ef_23⟩ : ∃ z9 : Nat → Int32, z9 = (upd f (Int32.toNatClampNeg j) 0) := ⟨_, rfl⟩
          have hP : va_P D vwCl (mwd y ad zw (tI (tI (sI σ 79 i_2) 81 f) 81 f_23)) H := by rw [ef_23]; exact x_trP hP mwd_s55
          have hD : va_D A (mwd y ad zw (tI (tI (sI σ 79 i_2) 81 f) 81 f_23)) := by rw [ef_23]; exact x_trD hD mwd_s55
          obtain ⟨i_24, ei_24⟩ : ∃ z9 : Int32, z9 = j + 1 := ⟨_, rfl⟩
          have vi_24 : i_24.toInt = j.toInt + 1 := by have h9 := x_add ei_24 (by omega) (by omega); omega
          refine lv_iinc (v := i_24) (lv' := [(1, .int i_24), (0, .ref (ad 1))]) hx hb dX12_groups_34 hl (k := 0) rfl (by rw [ei_24]; rfl) (by decide) rfl (fun ls hl => ?_)
          refine lv_goto (tgt := 21) hx hb dX12_groups_37 (by decide) ?_
          have hP : va_P D vwCl (mwd y ad zw (tI (sI σ 79 i_2) 81 f_23)) H := hP
          have hD : va_D A (mwd y ad zw (tI (sI σ 79 i_2) 81 f_23)) := hD
          exact ih_loop i_24 f_23 H locs ls (by omega) (by omega) (by omega) hP hD hS (lv_sub hl [0, 1] rfl)
    exact loop 9 0 (σ.2.2.1 81) H locs ls (by decide) (by decide) (by have h7 : (0 : Int32).toInt = 0 := rfl; omega) hP hD hS (lv_sub hl [0, 1] rfl)
  · have kc_1 : (σ.1 54).toInt = 0 := by have h9 := c_1; simp only [ge_iff_le, gt_iff_lt, x_lt, x_le, x_eq, ne_eq, Int32.not_lt, Int32.not_le] at h9; simp only [Int32.reduceToInt] at h9; omega
    refine lv_iconst (v := (-1)) hx hb dX12_groups_7 (by decide) ?_
    have hP : va_P D vwCl (mwd y ad zw (tI (tI (sI (tI (sI σ 79 (σ.1 79)) 81 (σ.2.2.1 81)) 78 (σ.1 78)) 74 (σ.2.2.1 74)) 80 (σ.2.2.1 80))) H := hP
    have hD : va_D A (mwd y ad zw (tI (tI (sI (tI (sI σ 79 (σ.1 79)) 81 (σ.2.2.1 81)) 78 (σ.1 78)) 74 (σ.2.2.1 74)) 80 (σ.2.2.1 80))) := hD
    exact x_iretW (v := (-1)) (u := ((σ.1 79), (σ.2.2.1 81), (σ.1 78), (σ.2.2.1 74), (σ.2.2.1 80))) hx hb hr hQ (by (try dsimp only); exact ⟨⟨by omega, by omega⟩, hB80⟩) hP hD hK hS dX12_groups_8 hlocks

