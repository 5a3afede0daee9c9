theorem dX12_fact_0 : decode cX12_fact 0 = .ok (.aload_n 0, 1) := by decide +kernel
theorem dX12_fact_1 : decode cX12_fact 1 = .ok (.invokevirtual 317, 3) := by decide +kernel
theorem dX12_fact_4 : decode cX12_fact 4 = .ok (.aload_n 0, 1) := by decide +kernel
theorem dX12_fact_5 : decode cX12_fact 5 = .ok (.getfield 191, 3) := by decide +kernel
theorem dX12_fact_8 : decode cX12_fact 8 = .ok (.ifCond .eq 4, 3) := by decide +kernel
theorem dX12_fact_11 : decode cX12_fact 11 = .ok (.return_, 1) := by decide +kernel
theorem dX12_fact_12 : decode cX12_fact 12 = .ok (.aload_n 0, 1) := by decide +kernel
theorem dX12_fact_13 : decode cX12_fact 13 = .ok (.invokevirtual 203, 3) := by decide +kernel
theorem dX12_fact_16 : decode cX12_fact 16 = .ok (.istore_n 1, 1) := by decide +kernel
theorem dX12_fact_17 : decode cX12_fact 17 = .ok (.iload_n 1, 1) := by decide +kernel
theorem dX12_fact_18 : decode cX12_fact 18 = .ok (.bipush 60, 2) := by decide +kernel
theorem dX12_fact_20 : decode cX12_fact 20 = .ok (.if_icmp .eq 25, 3) := by decide +kernel
theorem dX12_fact_23 : decode cX12_fact 23 = .ok (.iload_n 1, 1) := by decide +kernel
theorem dX12_fact_24 : decode cX12_fact 24 = .ok (.bipush 62, 2) := by decide +kernel
theorem dX12_fact_26 : decode cX12_fact 26 = .ok (.if_icmp .eq 19, 3) := by decide +kernel
theorem dX12_fact_29 : decode cX12_fact 29 = .ok (.iload_n 1, 1) := by decide +kernel
theorem dX12_fact_30 : decode cX12_fact 30 = .ok (.bipush 61, 2) := by decide +kernel
theorem dX12_fact_32 : decode cX12_fact 32 = .ok (.if_icmp .eq 13, 3) := by decide +kernel
theorem dX12_fact_35 : decode cX12_fact 35 = .ok (.aload_n 0, 1) := by decide +kernel
theorem dX12_fact_36 : decode cX12_fact 36 = .ok (.iconst 1, 1) := by decide +kernel
theorem dX12_fact_37 : decode cX12_fact 37 = .ok (.aload_n 0, 1) := by decide +kernel
theorem dX12_fact_38 : decode cX12_fact 38 = .ok (.getfield 197, 3) := by decide +kernel
theorem dX12_fact_41 : decode cX12_fact 41 = .ok (.invokevirtual 221, 3) := by decide +kernel
theorem dX12_fact_44 : decode cX12_fact 44 = .ok (.return_, 1) := by decide +kernel
theorem dX12_fact_45 : decode cX12_fact 45 = .ok (.aload_n 0, 1) := by decide +kernel
theorem dX12_fact_46 : decode cX12_fact 46 = .ok (.dup, 1) := by decide +kernel
theorem dX12_fact_47 : decode cX12_fact 47 = .ok (.getfield 197, 3) := by decide +kernel
theorem dX12_fact_50 : decode cX12_fact 50 = .ok (.iconst 1, 1) := by decide +kernel
theorem dX12_fact_51 : decode cX12_fact 51 = .ok (.iadd, 1) := by decide +kernel
theorem dX12_fact_52 : decode cX12_fact 52 = .ok (.putfield 197, 3) := by decide +kernel
theorem dX12_fact_55 : decode cX12_fact 55 = .ok (.aload_n 0, 1) := by decide +kernel
theorem dX12_fact_56 : decode cX12_fact 56 = .ok (.invokevirtual 317, 3) := by decide +kernel
theorem dX12_fact_59 : decode cX12_fact 59 = .ok (.aload_n 0, 1) := by decide +kernel
theorem dX12_fact_60 : decode cX12_fact 60 = .ok (.iload_n 1, 1) := by decide +kernel
theorem dX12_fact_61 : decode cX12_fact 61 = .ok (.bipush 60, 2) := by decide +kernel
theorem dX12_fact_63 : decode cX12_fact 63 = .ok (.if_icmp .ne 8, 3) := by decide +kernel
theorem dX12_fact_66 : decode cX12_fact 66 = .ok (.bipush 11, 2) := by decide +kernel
theorem dX12_fact_68 : decode cX12_fact 68 = .ok (.goto 16, 3) := by decide +kernel
theorem dX12_fact_71 : decode cX12_fact 71 = .ok (.iload_n 1, 1) := by decide +kernel
theorem dX12_fact_72 : decode cX12_fact 72 = .ok (.bipush 62, 2) := by decide +kernel
theorem dX12_fact_74 : decode cX12_fact 74 = .ok (.if_icmp .ne 8, 3) := by decide +kernel
theorem dX12_fact_77 : decode cX12_fact 77 = .ok (.bipush 12, 2) := by decide +kernel
theorem dX12_fact_79 : decode cX12_fact 79 = .ok (.goto 5, 3) := by decide +kernel
theorem dX12_fact_82 : decode cX12_fact 82 = .ok (.bipush 13, 2) := by decide +kernel
theorem dX12_fact_84 : decode cX12_fact 84 = .ok (.invokevirtual 266, 3) := by decide +kernel
theorem dX12_fact_87 : decode cX12_fact 87 = .ok (.return_, 1) := by decide +kernel
def v_q_fact : List Cond := .code yX12_fact cX12_fact 2 none :: ([.fieldLink RX12 191 "SlopeRunnerModel" "bad" "I", .fieldLink RX12 197 "SlopeRunnerModel" "at" "I"] ++ ((wsV RX12 317 RX12 yX12_sums v_q_sums) ++ ((wsV RX12 203 RX12 yX12_look v_q_look2) ++ ((wsV RX12 266 RX12 yX12_code v_q_code) ++ ((wsV RX12 221 RX12 yX12_fail v_q_fail) ++ wsX120)))))
theorem g_q_fact_0 : GoodIn v_q_fact (wsV RX12 317 RX12 yX12_sums v_q_sums) := goodIn_sub (fun w h => List.mem_cons_of_mem _ (List.mem_append_right _ (List.mem_append_left _ h))) (by decide +kernel)
theorem g_q_fact_1 : GoodIn v_q_fact (wsV RX12 203 RX12 yX12_look v_q_look2) := goodIn_sub (fun w h => List.mem_cons_of_mem _ (List.mem_append_right _ (List.mem_append_right _ (List.mem_append_left _ h)))) (by decide +kernel)
theorem g_q_fact_2 : GoodIn v_q_fact (wsV RX12 266 RX12 yX12_code v_q_code) := goodIn_sub (fun w h => List.mem_cons_of_mem _ (List.mem_append_right _ (List.mem_append_right _ (List.mem_append_right _ (List.mem_append_left _ h))))) (by decide +kernel)
theorem g_q_fact_3 : GoodIn v_q_fact (wsV RX12 221 RX12 yX12_fail v_q_fail) := goodIn_sub (fun w h => List.mem_cons_of_mem _ (List.mem_append_right _ (List.mem_append_right _ (List.mem_append_right _ (List.mem_append_right _ (List.mem_append_left _ h)))))) (by decide +kernel)
set_option maxHeartbeats 4000000 in
set_option maxRecDepth 100000 in
theorem q_fact (l : Launch) (D : va_G) (y : Nat → ClassId) (sz : Nat) (ad : Nat → Nat) (zw : Nat → Nat → Int32) (σ : OS) (ha0 : 0 ≤ (σ.1 2).toInt) (ha1 : (σ.1 2).toInt ≤ (σ.1 3).toInt) (ha2 : (σ.1 3).toInt ≤ 700) (hb0 : (σ.1 5).toInt = 0) (hn0 : 0 ≤ (σ.1 33).toInt) (hn1 : (σ.1 33).toInt ≤ 24) (ho0 : 0 ≤ (σ.1 32).toInt) (ho1 : (σ.1 32).toInt ≤ 8) (hw0 : 0 ≤ (σ.1 31).toInt) (hc0 : 0 ≤ (σ.1 29).toInt) (hcw : (σ.1 29).toInt + (σ.1 31).toInt ≤ (σ.1 2).toInt + 20) (hha0 : 0 ≤ (σ.2.2.1 24 4).toInt) (hhb0 : (σ.2.2.1 24 4).toInt ≤ (σ.1 2).toInt + 20) (hlo : ∀ k : Nat, k < (σ.1 31).toInt.toNat → ¬ (1 ≤ ((σ.2.2.1 30) k).toInt ∧ ((σ.2.2.1 30) k).toInt ≤ 4)) (hoc : (oc (σ.2.2.1 30) (σ.1 31).toInt.toNat : Int) ≤ (σ.1 32).toInt)  (hB35 : bI (σ.2.2.1 35) 0 23) (hB26 : bI (σ.2.2.1 26) 0 9999) : Met l yX12_fact v_q_fact ({ frames := 8, cells := 0, slots := 0, locals := 176 } : Room) (va_Pc [.ref (ad 1)] (xPre D (xT y) (mwd y ad zw σ) sz)) (va_Qv (fun (u : Int32 × Int32 × Int32 × Int32 × Int32 × Int32 × (Nat → Int32) × Int32 × (Nat → Int32) × Int32 × (Nat → Int32) × (Nat → Int32) × Int32) => ((σ.1 2).toInt ≤ u.1.toInt ∧ u.1.toInt ≤ (σ.1 3).toInt ∧ 0 ≤ u.2.2.2.2.2.2.2.1.toInt ∧ u.2.2.2.2.2.2.2.1.toInt ≤ 8 ∧ 0 ≤ u.2.2.2.2.2.2.2.2.2.1.toInt ∧ (σ.1 29).toInt ≤ u.2.2.2.2.2.1.toInt ∧ u.2.2.2.2.2.1.toInt + u.2.2.2.2.2.2.2.2.2.1.toInt - u.1.toInt ≤ (σ.1 29).toInt + (σ.1 31).toInt - (σ.1 2).toInt + 2 ∧ (∀ k : Nat, k ≠ 4 → u.2.2.2.2.2.2.2.2.2.2.1 k = σ.2.2.1 24 k) ∧ (σ.2.2.1 24 4).toInt ≤ (u.2.2.2.2.2.2.2.2.2.2.1 4).toInt ∧ (u.2.2.2.2.2.2.2.2.2.2.1 4).toInt - u.1.toInt ≤ (σ.2.2.1 24 4).toInt - (σ.1 2).toInt + 1 ∧ u.2.2.2.2.2.2.2.2.2.2.2.2 = (σ.1 40) ∧ (u.2.2.1.toInt = 0 → (σ.1 2).toInt + 1 ≤ u.1.toInt ∧ u.2.2.2.2.2.1.toInt + u.2.2.2.2.2.2.2.2.2.1.toInt - u.1.toInt ≤ (σ.1 29).toInt + (σ.1 31).toInt - (σ.1 2).toInt ∧ (u.2.2.2.2.2.2.2.2.2.2.1 4).toInt - u.1.toInt ≤ (σ.2.2.1 24 4).toInt - (σ.1 2).toInt ∧ u.2.2.2.2.2.2.2.2.2.1.toInt = (σ.1 31).toInt ∧ u.2.2.2.2.2.2.2.1.toInt = (σ.1 32).toInt ∧ PC (σ.2.2.1 27) u.2.2.2.2.2.2.1 (σ.2.2.1 30) u.2.2.2.2.2.2.2.2.1 ((σ.1 29).toInt.toNat) (u.2.2.2.2.2.1.toInt.toNat) ((σ.1 31).toInt.toNat) (1000 + (u.2.2.2.2.2.2.2.2.2.2.1 4).toInt) [false])) ∧ bI u.2.2.2.2.2.2.2.2.2.2.2.1 0 9999) (fun (u : Int32 × Int32 × Int32 × Int32 × Int32 × Int32 × (Nat → Int32) × Int32 × (Nat → Int32) × Int32 × (Nat → Int32) × (Nat → Int32) × Int32) => xB D (xT y) (va_A (mwd y ad zw σ) sz) (mwd y ad zw (sI (tI (tI (sI (tI (sI (tI (sI (sI (sI (sI (sI (sI σ 2 u.1) 4 u.2.1) 5 u.2.2.1) 6 u.2.2.2.1) 23 u.2.2.2.2.1) 29 u.2.2.2.2.2.1) 27 u.2.2.2.2.2.2.1) 32 u.2.2.2.2.2.2.2.1) 30 u.2.2.2.2.2.2.2.2.1) 31 u.2.2.2.2.2.2.2.2.2.1) 24 u.2.2.2.2.2.2.2.2.2.2.1) 26 u.2.2.2.2.2.2.2.2.2.2.2.1) 40 u.2.2.2.2.2.2.2.2.2.2.2.2))) (va_A (mwd y ad zw σ) sz)) 0 0 (va_A (mwd y ad zw σ) sz) := by
  refine x_metv (cc := cX12_fact) (maxL := 2) (by decide) rfl (Nat.le_of_ble_eq_true rfl) ?_
  intro p e s m below meth c A H locs Q hx hb hml hown hts hr hlocks hmn hA hP hK hD hS ls hl hQ
  have hl : lv_has ls 2 [(0, .ref (ad 1))] := hl
  have fl191 := hts (.fieldLink RX12 191 "SlopeRunnerModel" "bad" "I") (List.mem_of_getElem? (i := 1) rfl)
  have inX12 : ∀ w ∈ wsX120, w ∈ v_q_fact := (fun w h => List.mem_cons_of_mem _ (List.mem_append_right _ (List.mem_append_right _ (List.mem_append_right _ (List.mem_append_right _ (List.mem_append_right _ h))))))
  have kk_0 : (0 : Int32).toInt = 0 := rfl
  have kk_60 : (60 : Int32).toInt = 60 := rfl
  have fl197 := hts (.fieldLink RX12 197 "SlopeRunnerModel" "at" "I") (List.mem_of_getElem? (i := 2) rfl)
  have kk_1 : (1 : Int32).toInt = 1 := rfl
  have kk_62 : (62 : Int32).toInt = 62 := rfl
  have kk_13 : (13 : Int32).toInt = 13 := rfl
  have kk_12 : (12 : Int32).toInt = 12 := rfl
  have kk_11 : (11 : Int32).toInt = 11 := rfl
  have kk_61 : (61 : Int32).toInt = 61 := rfl
  refine lv_aload_n hx hb dX12_fact_0 rfl (lv_at hl 0 rfl) ?_
  refine x_callvW (va_runV (As := []) (rest := []) ⟨hx, hb, hml, hown, hts⟩ (q_sums l D y H.size ad zw σ (show 0 ≤ ((σ.1 2)).toInt from by first | omega | decide) (show ((σ.1 2)).toInt ≤ ((σ.1 3)).toInt from by first | omega | decide) (show ((σ.1 3)).toInt ≤ 700 from by first | omega | decide) (show ((σ.1 5)).toInt = 0 from by first | omega | decide) (show 0 ≤ ((σ.1 33)).toInt from by first | omega | decide) (show ((σ.1 33)).toInt ≤ 24 from by first | omega | decide) (show 0 ≤ ((σ.1 32)).toInt from by first | omega | decide) (show ((σ.1 32)).toInt ≤ 8 from by first | omega | decide) (show 0 ≤ ((σ.1 31)).toInt from by first | omega | decide) (show 0 ≤ ((σ.1 29)).toInt from by first | omega | decide) (show ((σ.1 29)).toInt + ((σ.1 31)).toInt ≤ ((σ.1 2)).toInt + 20 from by first | omega | decide) (show 0 ≤ ((σ.2.2.1 24) 4).toInt from by first | omega | decide) (show ((σ.2.2.1 24) 4).toInt ≤ ((σ.1 2)).toInt + 20 from by first | omega | decide) hlo hoc hB35 hB26) (cwV 0 hts g_q_fact_0 rfl rfl rfl (by decide +kernel) ⟨Nat.le_of_ble_eq_true rfl, Nat.le_of_ble_eq_true rfl⟩) (x_preV (q := (RX12, TX12, 85)) hK hP hD (ci := 11) (q0 := 0) rfl mwd_o0) rfl rfl hl.1 rfl (lv_room (Nat.le_of_ble_eq_true rfl)) dX12_fact_1 ⟨Nat.le_of_ble_eq_true rfl, Nat.le_of_ble_eq_true rfl⟩) hP hD hS hA (fun u H locs hw hP hD hS => ?_)
  obtain ⟨n_1, n_2, n_3, n_4, n_5, n_6, f_7, n_8, f_9, n_10, f_11, f_12, n_13⟩ := u
  try dsimp only at hw
  have hP : va_P D vwCl (mwd y ad zw (sI (tI (tI (sI (tI (sI (tI (sI (sI (sI (sI (sI (sI σ 2 n_1) 4 n_2) 5 n_3) 6 n_4) 23 n_5) 29 n_6) 27 f_7) 32 n_8) 30 f_9) 31 n_10) 24 f_11) 26 f_12) 40 n_13)) H := hP
  have hD : va_D A (mwd y ad zw (sI (tI (tI (sI (tI (sI (tI (sI (sI (sI (sI (sI (sI σ 2 n_1) 4 n_2) 5 n_3) 6 n_4) 23 n_5) 29 n_6) 27 f_7) 32 n_8) 30 f_9) 31 n_10) 24 f_11) 26 f_12) 40 n_13)) := hD
  replace hw : (((σ.1 2)).toInt ≤ n_1.toInt ∧ n_1.toInt ≤ ((σ.1 3)).toInt ∧ 0 ≤ n_8.toInt ∧ n_8.toInt ≤ 8 ∧ 0 ≤ n_10.toInt ∧ ((σ.1 29)).toInt ≤ n_6.toInt ∧ n_6.toInt + n_10.toInt - n_1.toInt ≤ ((σ.1 29)).toInt + ((σ.1 31)).toInt - ((σ.1 2)).toInt + 1 ∧ (∀ k : Nat, k ≠ 4 → f_11 k = (σ.2.2.1 24) k) ∧ ((σ.2.2.1 24) 4).toInt ≤ (f_11 4).toInt ∧ (f_11 4).toInt - n_1.toInt ≤ ((σ.2.2.1 24) 4).toInt - ((σ.1 2)).toInt + 1 ∧ n_13 = ((σ.1 40)) ∧ (n_3.toInt = 0 → ((σ.1 2)).toInt + 1 ≤ n_1.toInt ∧ n_6.toInt + n_10.toInt - n_1.toInt ≤ ((σ.1 29)).toInt + ((σ.1 31)).toInt - ((σ.1 2)).toInt ∧ (f_11 4).toInt - n_1.toInt ≤ ((σ.2.2.1 24) 4).toInt - ((σ.1 2)).toInt ∧ n_10.toInt = ((σ.1 31)).toInt ∧ ES ((σ.2.2.1 27)) f_7 ((σ.2.2.1 30)) f_9 (((σ.1 29)).toInt.toNat) (n_6.toInt.toNat) (((σ.1 31)).toInt.toNat) (n_10.toInt.toNat) 1 (1000 + (f_11 4).toInt) n_8.toInt (((σ.1 32)).toInt - (oc ((σ.2.2.1 30)) ((σ.1 31)).toInt.toNat : Int)))) ∧ bI f_12 0 9999 := hw
  obtain ⟨hw, hg_14⟩ := hw
  obtain ⟨hp1, hp2, hp3, hp4, hp5, hp6, hp7, hp8, hp9, hp10, hp11, hpi⟩ := hw
  rcases Classical.em (n_3.toInt = 0) with hbz | hbz
  · obtain ⟨hg1, hg2, hg3, hg4, hg5⟩ := hpi hbz
    clear hpi
    obtain ⟨hP1, hO1⟩ := PC_ES hg5 (by omega)
    clear hg5
    refine lv_aload_n hx hb dX12_fact_4 rfl (lv_at hl 0 rfl) ?_
    refine va_get (D := D) (ci := 11) (v := .int n_3) (C := RX12) (T := TX12) (N := 85) hx hb hts inX12 hown hK hP 0 mwd_o0 rfl 5 (by decide) fl191 (fun _ h9 => h9) rfl dX12_fact_5 ?_
    refine lv_if_eq (tgt := 12) hx hb dX12_fact_8 (by decide) (fun c_15 => ?_) (fun c_15 => ?_)
    · have kc_15 : n_3.toInt = 0 := by have h9 := c_15; simp only [ge_iff_le, gt_iff_lt, x_lt, x_le, x_eq, ne_eq, Int32.not_lt, Int32.not_le] at h9; simp only [Int32.reduceToInt] at h9; omega
      refine lv_aload_n hx hb dX12_fact_12 rfl (lv_at hl 0 rfl) ?_
      refine x_calliW (va_runV (As := []) (rest := []) ⟨hx, hb, hml, hown, hts⟩ (q_look2 l D y H.size ad zw (sI (tI (tI (sI (tI (sI (tI (sI (sI (sI (sI (sI (sI σ 2 n_1) 4 n_2) 5 n_3) 6 n_4) 23 n_5) 29 n_6) 27 f_7) 32 n_8) 30 f_9) 31 n_10) 24 f_11) 26 f_12) 40 n_13) (show 0 ≤ (n_1).toInt from by first | omega | decide) (show (n_1).toInt ≤ ((σ.1 3)).toInt from by first | omega | decide) (show ((σ.1 3)).toInt ≤ 700 from by first | omega | decide)) (cwV 0 hts g_q_fact_1 rfl rfl rfl (by decide +kernel) ⟨Nat.le_of_ble_eq_true rfl, Nat.le_of_ble_eq_true rfl⟩) (x_preV (q := (RX12, TX12, 85)) hK hP hD (ci := 11) (q0 := 0) rfl mwd_o0) rfl rfl hl.1 rfl (lv_room (Nat.le_of_ble_eq_true rfl)) dX12_fact_13 ⟨Nat.le_of_ble_eq_true rfl, Nat.le_of_ble_eq_true rfl⟩) hP hD hS hA (fun r_16 u H locs hw hP hD hS => ?_)
      obtain ⟨n_17, rfl⟩ : ∃ z9, z9 = u := ⟨_, rfl⟩
      try dsimp only at hw
      have hP : va_P D vwCl (mwd y ad zw (sI (sI (tI (tI (sI (tI (sI (tI (sI (sI (sI (sI (sI (sI σ 2 n_1) 4 n_2) 5 n_3) 6 n_4) 23 n_5) 29 n_6) 27 f_7) 32 n_8) 30 f_9) 31 n_10) 24 f_11) 26 f_12) 40 n_13) 2 n_17)) H := hP
      have hD : va_D A (mwd y ad zw (sI (sI (tI (tI (sI (tI (sI (tI (sI (sI (sI (sI (sI (sI σ 2 n_1) 4 n_2) 5 n_3) 6 n_4) 23 n_5) 29 n_6) 27 f_7) 32 n_8) 30 f_9) 31 n_10) 24 f_11) 26 f_12) 40 n_13) 2 n_17)) := hD
      replace hw : (n_1).toInt ≤ n_17.toInt ∧ n_17.toInt ≤ ((σ.1 3)).toInt ∧ (r_16.toInt = -1 ∨ (n_17.toInt < ((σ.1 3)).toInt ∧ r_16 = ((σ.2.2.1 0)) (Int32.toNatClampNeg n_17))) := hw
      replace hw : n_1.toInt ≤ n_17.toInt ∧ n_17.toInt ≤ (σ.1 3).toInt ∧ (r_16.toInt = -1 ∨ n_17.toInt < (σ.1 3).toInt) := ⟨hw.1, hw.2.1, hw.2.2.imp id And.left⟩
      have hlk := hw
      refine lv_istore_n (lv' := [(1, .int r_16), (0, .ref (ad 1))]) hx hb dX12_fact_16 rfl hl (by decide) rfl (fun ls hl => ?_)
      refine lv_iload_n hx hb dX12_fact_17 rfl (lv_at hl 0 rfl) ?_
      refine lv_bipush (v := 60) hx hb dX12_fact_18 (by decide) ?_
      refine lv_icmp_eq (tgt := 45) hx hb dX12_fact_20 (by decide) (fun c_18 => ?_) (fun c_18 => ?_)
      · have kc_18 : r_16.toInt = 60 := by have h9 := c_18; simp only [ge_iff_le, gt_iff_lt, x_lt, x_le, x_eq, ne_eq, Int32.not_lt, Int32.not_le] at h9; simp only [Int32.reduceToInt] at h9; omega
        refine lv_aload_n hx hb dX12_fact_45 rfl (lv_at hl 1 rfl) ?_
        refine lv_dup hx hb dX12_fact_46 rfl ?_
        refine va_get (D := D) (ci := 11) (v := .int n_17) (C := RX12) (T := TX12) (N := 85) hx hb hts inX12 hown hK hP 0 mwd_o0 rfl 2 (by decide) fl197 (fun _ h9 => h9) rfl dX12_fact_47 ?_
        refine lv_iconst (v := 1) hx hb dX12_fact_50 (by decide) ?_
        refine lv_iadd hx hb dX12_fact_51 ?_
        refine lv_topi (fun i_19 ei_19 => ?_)
        have vi_19 : i_19.toInt = n_17.toInt + 1 := by have h9 := x_add ei_19 (by omega) (by omega); omega
        refine va_put (D := D) (ci := 11) (v := .int i_19) (ty := .int) (C := RX12) (T := TX12) (N := 85) hx hb hts inX12 tyX12 tyX12_ok nmX12 hown hK hP hD hS 0 mwd_o0 rfl 2 (by decide) fl197 (fun _ h9 => h9) rfl (by decide +kernel) rfl rfl (Nat.le_of_ble_eq_true rfl) dX12_fact_52 (fun H locs hP hD hS => ?_)
        have hP : va_P D vwCl (mwd y ad zw (sI (sI (sI (tI (tI (sI (tI (sI (tI (sI (sI (sI (sI (sI (sI σ 2 n_1) 4 n_2) 5 n_3) 6 n_4) 23 n_5) 29 n_6) 27 f_7) 32 n_8) 30 f_9) 31 n_10) 24 f_11) 26 f_12) 40 n_13) 2 n_17) 2 i_19)) H := x_trP hP mwd_p0_2
        have hD : va_D A (mwd y ad zw (sI (sI (sI (tI (tI (sI (tI (sI (tI (sI (sI (sI (sI (sI (sI σ 2 n_1) 4 n_2) 5 n_3) 6 n_4) 23 n_5) 29 n_6) 27 f_7) 32 n_8) 30 f_9) 31 n_10) 24 f_11) 26 f_12) 40 n_13) 2 n_17) 2 i_19)) := x_trD hD mwd_p0_2
        refine lv_aload_n hx hb dX12_fact_55 rfl (lv_at hl 1 rfl) ?_
        have hlo2 : ∀ k : Nat, k < n_10.toInt.toNat → ¬ (1 ≤ (f_9 k).toInt ∧ (f_9 k).toInt ≤ 4) := fun k h9 => by rw [hP1.2.2.2.1 k (by omega)]; exact hlo k (by omega)
        have hoc2 : (oc f_9 n_10.toInt.toNat : Int) ≤ n_8.toInt := by rw [show n_10.toInt.toNat = (σ.1 31).toInt.toNat by omega, oc_congr hP1.2.2.2.1]; omega
        have hoc3 : (oc f_9 n_10.toInt.toNat : Int) = (oc (σ.2.2.1 30) ((σ.1 31).toInt.toNat) : Int) := by rw [show n_10.toInt.toNat = (σ.1 31).toInt.toNat by omega, oc_congr hP1.2.2.2.1]
        refine x_callvW (va_runV (As := []) (rest := []) ⟨hx, hb, hml, hown, hts⟩ (q_sums l D y H.size ad zw (sI (sI (sI (tI (tI (sI (tI (sI (tI (sI (sI (sI (sI (sI (sI σ 2 n_1) 4 n_2) 5 n_3) 6 n_4) 23 n_5) 29 n_6) 27 f_7) 32 n_8) 30 f_9) 31 n_10) 24 f_11) 26 f_12) 40 n_13) 2 n_17) 2 i_19) (show 0 ≤ (i_19).toInt from by first | omega | decide) (show (i_19).toInt ≤ ((σ.1 3)).toInt from by first | omega | decide) (show ((σ.1 3)).toInt ≤ 700 from by first | omega | decide) (show (n_3).toInt = 0 from by first | omega | decide) (show 0 ≤ ((σ.1 33)).toInt from by first | omega | decide) (show ((σ.1 33)).toInt ≤ 24 from by first | omega | decide) (show 0 ≤ (n_8).toInt from by first | omega | decide) (show (n_8).toInt ≤ 8 from by first | omega | decide) (show 0 ≤ (n_10).toInt from by first | omega | decide) (show 0 ≤ (n_6).toInt from by first | omega | decide) (show (n_6).toInt + (n_10).toInt ≤ (i_19).toInt + 20 from by first | omega | decide) (show 0 ≤ (f_11 4).toInt from by first | omega | decide) (show (f_11 4).toInt ≤ (i_19).toInt + 20 from by first | omega | decide) hlo2 hoc2 hB35 hg_14) (cwV 0 hts g_q_fact_0 rfl rfl rfl (by decide +kernel) ⟨Nat.le_of_ble_eq_true rfl, Nat.le_of_ble_eq_true rfl⟩) (x_preV (q := (RX12, TX12, 85)) hK hP hD (ci := 11) (q0 := 0) rfl mwd_o0) rfl rfl hl.1 rfl (lv_room (Nat.le_of_ble_eq_true rfl)) dX12_fact_56 ⟨Nat.le_of_ble_eq_true rfl, Nat.le_of_ble_eq_true rfl⟩) hP hD hS hA (fun u H locs hw hP hD hS => ?_)
        obtain ⟨n_20, n_21, n_22, n_23, n_24, n_25, f_26, n_27, f_28, n_29, f_30, f_31, n_32⟩ := u
        try dsimp only at hw
        have hP : va_P D vwCl (mwd y ad zw (sI (tI (tI (sI (tI (sI (tI (sI (sI (sI (sI (sI (sI (sI (sI (sI (tI (tI (sI (tI (sI (tI (sI (sI (sI (sI (sI (sI σ 2 n_1) 4 n_2) 5 n_3) 6 n_4) 23 n_5) 29 n_6) 27 f_7) 32 n_8) 30 f_9) 31 n_10) 24 f_11) 26 f_12) 40 n_13) 2 n_17) 2 i_19) 2 n_20) 4 n_21) 5 n_22) 6 n_23) 23 n_24) 29 n_25) 27 f_26) 32 n_27) 30 f_28) 31 n_29) 24 f_30) 26 f_31) 40 n_32)) H := hP
        have hD : va_D A (mwd y ad zw (sI (tI (tI (sI (tI (sI (tI (sI (sI (sI (sI (sI (sI (sI (sI (sI (tI (tI (sI (tI (sI (tI (sI (sI (sI (sI (sI (sI σ 2 n_1) 4 n_2) 5 n_3) 6 n_4) 23 n_5) 29 n_6) 27 f_7) 32 n_8) 30 f_9) 31 n_10) 24 f_11) 26 f_12) 40 n_13) 2 n_17) 2 i_19) 2 n_20) 4 n_21) 5 n_22) 6 n_23) 23 n_24) 29 n_25) 27 f_26) 32 n_27) 30 f_28) 31 n_29) 24 f_30) 26 f_31) 40 n_32)) := hD
        replace hw : ((i_19).toInt ≤ n_20.toInt ∧ n_20.toInt ≤ ((σ.1 3)).toInt ∧ 0 ≤ n_27.toInt ∧ n_27.toInt ≤ 8 ∧ 0 ≤ n_29.toInt ∧ (n_6).toInt ≤ n_25.toInt ∧ n_25.toInt + n_29.toInt - n_20.toInt ≤ (n_6).toInt + (n_10).toInt - (i_19).toInt + 1 ∧ (∀ k : Nat, k ≠ 4 → f_30 k = f_11 k) ∧ (f_11 4).toInt ≤ (f_30 4).toInt ∧ (f_30 4).toInt - n_20.toInt ≤ (f_11 4).toInt - (i_19).toInt + 1 ∧ n_32 = (n_13) ∧ (n_22.toInt = 0 → (i_19).toInt + 1 ≤ n_20.toInt ∧ n_25.toInt + n_29.toInt - n_20.toInt ≤ (n_6).toInt + (n_10).toInt - (i_19).toInt ∧ (f_30 4).toInt - n_20.toInt ≤ (f_11 4).toInt - (i_19).toInt ∧ n_29.toInt = (n_10).toInt ∧ ES (f_7) f_26 (f_9) f_28 ((n_6).toInt.toNat) (n_25.toInt.toNat) ((n_10).toInt.toNat) (n_29.toInt.toNat) 1 (1000 + (f_30 4).toInt) n_27.toInt ((n_8).toInt - (oc (f_9) (n_10).toInt.toNat : Int)))) ∧ bI f_31 0 9999 := hw
        obtain ⟨hw, hg_33⟩ := hw
        obtain ⟨ht1, ht2, ht3, ht4, ht5, ht6, ht7, ht8, ht9, ht10, ht11, hti⟩ := hw
        have hhb : ∀ k : Nat, k ≠ 4 → f_30 k = σ.2.2.1 24 k := fun k h9 => (ht8 k h9).trans (hp8 k h9)
        rcases Classical.em (n_22.toInt = 0) with hbz2 | hbz2
        · obtain ⟨hu1, hu2, hu3, hu4, hu5⟩ := hti hbz2
          clear hti
          obtain ⟨hP2, hO2⟩ := PC_ES hu5 (by omega)
          clear hu5
          rw [show n_10.toInt.toNat = (σ.1 31).toInt.toNat by omega] at hP2
          have hP3 := PC_seq hP1 hP2 (by omega)
          refine lv_aload_n hx hb dX12_fact_59 rfl (lv_at hl 1 rfl) ?_
          refine lv_iload_n hx hb dX12_fact_60 rfl (lv_at hl 0 rfl) ?_
          refine lv_bipush (v := 60) hx hb dX12_fact_61 (by decide) ?_
          refine lv_icmp_ne (tgt := 71) hx hb dX12_fact_63 (by decide) (fun c_34 => ?_) (fun c_34 => ?_)
          · have kc_34 : r_16.toInt ≠ 60 := by have h9 := c_34; simp only [ge_iff_le, gt_iff_lt, x_lt, x_le, x_eq, ne_eq, Int32.not_lt, Int32.not_le] at h9; simp only [Int32.reduceToInt] at h9; omega
            refine lv_iload_n hx hb dX12_fact_71 rfl (lv_at hl 0 rfl) ?_
            refine lv_bipush (v := 62) hx hb dX12_fact_72 (by decide) ?_
            refine lv_icmp_ne (tgt := 82) hx hb dX12_fact_74 (by decide) (fun c_35 => ?_) (fun c_35 => ?_)
            · have kc_35 : r_16.toInt ≠ 62 := by have h9 := c_35; simp only [ge_iff_le, gt_iff_lt, x_lt, x_le, x_eq, ne_eq, Int32.not_lt, Int32.not_le] at h9; simp only [Int32.reduceToInt] at h9; omega
              refine lv_bipush (v := 13) hx hb dX12_fact_82 (by decide) ?_
              refine x_callvW (va_runV (As := [.int 13]) (rest := []) ⟨hx, hb, hml, hown, hts⟩ (q_code l D y H.size ad zw (sI (tI (tI (sI (tI (sI (tI (sI (sI (sI (sI (sI (sI (sI (sI (sI (tI (tI (sI (tI (sI (tI (sI (sI (sI (sI (sI (sI σ 2 n_1) 4 n_2) 5 n_3) 6 n_4) 23 n_5) 29 n_6) 27 f_7) 32 n_8) 30 f_9) 31 n_10) 24 f_11) 26 f_12) 40 n_13) 2 n_17) 2 i_19) 2 n_20) 4 n_21) 5 n_22) 6 n_23) 23 n_24) 29 n_25) 27 f_26) 32 n_27) 30 f_28) 31 n_29) 24 f_30) 26 f_31) 40 n_32) 13 (show 0 ≤ (n_25).toInt from by first | omega | decide) (show (n_25).toInt < 1200 from by first | omega | decide)) (cwV 1 hts g_q_fact_2 rfl rfl rfl (by decide +kernel) ⟨Nat.le_of_ble_eq_true rfl, Nat.le_of_ble_eq_true rfl⟩) (x_preV (q := (RX12, TX12, 85)) hK hP hD (ci := 11) (q0 := 0) rfl mwd_o0) rfl rfl hl.1 rfl (lv_room (Nat.le_of_ble_eq_true rfl)) dX12_fact_84 ⟨Nat.le_of_ble_eq_true rfl, Nat.le_of_ble_eq_true rfl⟩) hP hD hS hA (fun u H locs hw hP hD hS => ?_)
              obtain ⟨n_36, f_37⟩ := u
              try dsimp only at hw
              have hP : va_P D vwCl (mwd y ad zw (tI (sI (sI (tI (tI (sI (tI (sI (tI (sI (sI (sI (sI (sI (sI (sI (sI (sI (tI (tI (sI (tI (sI (tI (sI (sI (sI (sI (sI (sI σ 2 n_1) 4 n_2) 5 n_3) 6 n_4) 23 n_5) 29 n_6) 27 f_7) 32 n_8) 30 f_9) 31 n_10) 24 f_11) 26 f_12) 40 n_13) 2 n_17) 2 i_19) 2 n_20) 4 n_21) 5 n_22) 6 n_23) 23 n_24) 29 n_25) 27 f_26) 32 n_27) 30 f_28) 31 n_29) 24 f_30) 26 f_31) 40 n_32) 29 n_36) 27 f_37)) H := hP
              have hD : va_D A (mwd y ad zw (tI (sI (sI (tI (tI (sI (tI (sI (tI (sI (sI (sI (sI (sI (sI (sI (sI (sI (tI (tI (sI (tI (sI (tI (sI (sI (sI (sI (sI (sI σ 2 n_1) 4 n_2) 5 n_3) 6 n_4) 23 n_5) 29 n_6) 27 f_7) 32 n_8) 30 f_9) 31 n_10) 24 f_11) 26 f_12) 40 n_13) 2 n_17) 2 i_19) 2 n_20) 4 n_21) 5 n_22) 6 n_23) 23 n_24) 29 n_25) 27 f_26) 32 n_27) 30 f_28) 31 n_29) 24 f_30) 26 f_31) 40 n_32) 29 n_36) 27 f_37)) := hD
              replace hw : n_36.toInt = (n_25).toInt + 1 ∧ f_37 = upd (f_26) (n_25).toInt.toNat (13 : Int32) := hw
              obtain ⟨hcd1, hcd2⟩ := hw
              have hP9 : PC (σ.2.2.1 27) f_37 (σ.2.2.1 30) f_28 ((σ.1 29).toInt.toNat) (n_36.toInt.toNat) ((σ.1 31).toInt.toNat) (1000 + (f_30 4).toInt) [false] := by rw [hcd2, show n_36.toInt.toNat = n_25.toInt.toNat + 1 by omega]; exact PC_cmp hP3 ⟨by decide, by decide⟩ (by have h7 : (13 : Int32).toInt = 13 := rfl; omega)
              have hP : va_P D vwCl (mwd y ad zw (sI (tI (tI (sI (tI (sI (tI (sI (sI (sI (sI (sI (sI σ 2 n_20) 4 n_21) 5 n_22) 6 n_23) 23 n_24) 29 n_36) 27 f_37) 32 n_27) 30 f_28) 31 n_29) 24 f_30) 26 f_31) 40 n_32)) H := hP
              have hD : va_D A (mwd y ad zw (sI (tI (tI (sI (tI (sI (tI (sI (sI (sI (sI (sI (sI σ 2 n_20) 4 n_21) 5 n_22) 6 n_23) 23 n_24) 29 n_36) 27 f_37) 32 n_27) 30 f_28) 31 n_29) 24 f_30) 26 f_31) 40 n_32)) := hD
              exact x_vretW (u := (n_20, n_21, n_22, n_23, n_24, n_36, f_37, n_27, f_28, n_29, f_30, f_31, n_32)) hx hb hr hQ (by (try dsimp only); exact ⟨⟨by omega, by omega, by omega, by omega, by omega, by omega, by omega, hhb, by omega, by omega, (ht11.trans hp11), fun h9 => ⟨by omega, by omega, by omega, by omega, by omega, hP9⟩⟩, hg_33⟩) hP hD hK hS dX12_fact_87 hlocks
            · have kc_35 : r_16.toInt = 62 := by have h9 := c_35; simp only [ge_iff_le, gt_iff_lt, x_lt, x_le, x_eq, ne_eq, Int32.not_lt, Int32.not_le] at h9; simp only [Int32.reduceToInt] at h9; omega
              refine lv_bipush (v := 12) hx hb dX12_fact_77 (by decide) ?_
              refine lv_goto (tgt := 84) hx hb dX12_fact_79 (by decide) ?_
              refine x_callvW (va_runV (As := [.int 12]) (rest := []) ⟨hx, hb, hml, hown, hts⟩ (q_code l D y H.size ad zw (sI (tI (tI (sI (tI (sI (tI (sI (sI (sI (sI (sI (sI (sI (sI (sI (tI (tI (sI (tI (sI (tI (sI (sI (sI (sI (sI (sI σ 2 n_1) 4 n_2) 5 n_3) 6 n_4) 23 n_5) 29 n_6) 27 f_7) 32 n_8) 30 f_9) 31 n_10) 24 f_11) 26 f_12) 40 n_13) 2 n_17) 2 i_19) 2 n_20) 4 n_21) 5 n_22) 6 n_23) 23 n_24) 29 n_25) 27 f_26) 32 n_27) 30 f_28) 31 n_29) 24 f_30) 26 f_31) 40 n_32) 12 (show 0 ≤ (n_25).toInt from by first | omega | decide) (show (n_25).toInt < 1200 from by first | omega | decide)) (cwV 1 hts g_q_fact_2 rfl rfl rfl (by decide +kernel) ⟨Nat.le_of_ble_eq_true rfl, Nat.le_of_ble_eq_true rfl⟩) (x_preV (q := (RX12, TX12, 85)) hK hP hD (ci := 11) (q0 := 0) rfl mwd_o0) rfl rfl hl.1 rfl (lv_room (Nat.le_of_ble_eq_true rfl)) dX12_fact_84 ⟨Nat.le_of_ble_eq_true rfl, Nat.le_of_ble_eq_true rfl⟩) hP hD hS hA (fun u H locs hw hP hD hS => ?_)
              obtain ⟨n_38, f_39⟩ := u
              try dsimp only at hw
              have hP : va_P D vwCl (mwd y ad zw (tI (sI (sI (tI (tI (sI (tI (sI (tI (sI (sI (sI (sI (sI (sI (sI (sI (sI (tI (tI (sI (tI (sI (tI (sI (sI (sI (sI (sI (sI σ 2 n_1) 4 n_2) 5 n_3) 6 n_4) 23 n_5) 29 n_6) 27 f_7) 32 n_8) 30 f_9) 31 n_10) 24 f_11) 26 f_12) 40 n_13) 2 n_17) 2 i_19) 2 n_20) 4 n_21) 5 n_22) 6 n_23) 23 n_24) 29 n_25) 27 f_26) 32 n_27) 30 f_28) 31 n_29) 24 f_30) 26 f_31) 40 n_32) 29 n_38) 27 f_39)) H := hP
              have hD : va_D A (mwd y ad zw (tI (sI (sI (tI (tI (sI (tI (sI (tI (sI (sI (sI (sI (sI (sI (sI (sI (sI (tI (tI (sI (tI (sI (tI (sI (sI (sI (sI (sI (sI σ 2 n_1) 4 n_2) 5 n_3) 6 n_4) 23 n_5) 29 n_6) 27 f_7) 32 n_8) 30 f_9) 31 n_10) 24 f_11) 26 f_12) 40 n_13) 2 n_17) 2 i_19) 2 n_20) 4 n_21) 5 n_22) 6 n_23) 23 n_24) 29 n_25) 27 f_26) 32 n_27) 30 f_28) 31 n_29) 24 f_30) 26 f_31) 40 n_32) 29 n_38) 27 f_39)) := hD
              replace hw : n_38.toInt = (n_25).toInt + 1 ∧ f_39 = upd (f_26) (n_25).toInt.toNat (12 : Int32) := hw
              obtain ⟨hcd1, hcd2⟩ := hw
              have hP9 : PC (σ.2.2.1 27) f_39 (σ.2.2.1 30) f_28 ((σ.1 29).toInt.toNat) (n_38.toInt.toNat) ((σ.1 31).toInt.toNat) (1000 + (f_30 4).toInt) [false] := by rw [hcd2, show n_38.toInt.toNat = n_25.toInt.toNat + 1 by omega]; exact PC_cmp hP3 ⟨by decide, by decide⟩ (by have h7 : (12 : Int32).toInt = 12 := rfl; omega)
              have hP : va_P D vwCl (mwd y ad zw (sI (tI (tI (sI (tI (sI (tI (sI (sI (sI (sI (sI (sI σ 2 n_20) 4 n_21) 5 n_22) 6 n_23) 23 n_24) 29 n_38) 27 f_39) 32 n_27) 30 f_28) 31 n_29) 24 f_30) 26 f_31) 40 n_32)) H := hP
              have hD : va_D A (mwd y ad zw (sI (tI (tI (sI (tI (sI (tI (sI (sI (sI (sI (sI (sI σ 2 n_20) 4 n_21) 5 n_22) 6 n_23) 23 n_24) 29 n_38) 27 f_39) 32 n_27) 30 f_28) 31 n_29) 24 f_30) 26 f_31) 40 n_32)) := hD
              exact x_vretW (u := (n_20, n_21, n_22, n_23, n_24, n_38, f_39, n_27, f_28, n_29, f_30, f_31, n_32)) hx hb hr hQ (by (try dsimp only); exact ⟨⟨by omega, by omega, by omega, by omega, by omega, by omega, by omega, hhb, by omega, by omega, (ht11.trans hp11), fun h9 => ⟨by omega, by omega, by omega, by omega, by omega, hP9⟩⟩, hg_33⟩) hP hD hK hS dX12_fact_87 hlocks
          · have kc_34 : r_16.toInt = 60 := by have h9 := c_34; simp only [ge_iff_le, gt_iff_lt, x_lt, x_le, x_eq, ne_eq, Int32.not_lt, Int32.not_le] at h9; simp only [Int32.reduceToInt] at h9; omega
            refine lv_bipush (v := 11) hx hb dX12_fact_66 (by decide) ?_
            refine lv_goto (tgt := 84) hx hb dX12_fact_68 (by decide) ?_
            refine x_callvW (va_runV (As := [.int 11]) (rest := []) ⟨hx, hb, hml, hown, hts⟩ (q_code l D y H.size ad zw (sI (tI (tI (sI (tI (sI (tI (sI (sI (sI (sI (sI (sI (sI (sI (sI (tI (tI (sI (tI (sI (tI (sI (sI (sI (sI (sI (sI σ 2 n_1) 4 n_2) 5 n_3) 6 n_4) 23 n_5) 29 n_6) 27 f_7) 32 n_8) 30 f_9) 31 n_10) 24 f_11) 26 f_12) 40 n_13) 2 n_17) 2 i_19) 2 n_20) 4 n_21) 5 n_22) 6 n_23) 23 n_24) 29 n_25) 27 f_26) 32 n_27) 30 f_28) 31 n_29) 24 f_30) 26 f_31) 40 n_32) 11 (show 0 ≤ (n_25).toInt from by first | omega | decide) (show (n_25).toInt < 1200 from by first | omega | decide)) (cwV 1 hts g_q_fact_2 rfl rfl rfl (by decide +kernel) ⟨Nat.le_of_ble_eq_true rfl, Nat.le_of_ble_eq_true rfl⟩) (x_preV (q := (RX12, TX12, 85)) hK hP hD (ci := 11) (q0 := 0) rfl mwd_o0) rfl rfl hl.1 rfl (lv_room (Nat.le_of_ble_eq_true rfl)) dX12_fact_84 ⟨Nat.le_of_ble_eq_true rfl, Nat.le_of_ble_eq_true rfl⟩) hP hD hS hA (fun u H locs hw hP hD hS => ?_)
            obtain ⟨n_40, f_41⟩ := u
            try dsimp only at hw
            have hP : va_P D vwCl (mwd y ad zw (tI (sI (sI (tI (tI (sI (tI (sI (tI (sI (sI (sI (sI (sI (sI (sI (sI (sI (tI (tI (sI (tI (sI (tI (sI (sI (sI (sI (sI (sI σ 2 n_1) 4 n_2) 5 n_3) 6 n_4) 23 n_5) 29 n_6) 27 f_7) 32 n_8) 30 f_9) 31 n_10) 24 f_11) 26 f_12) 40 n_13) 2 n_17) 2 i_19) 2 n_20) 4 n_21) 5 n_22) 6 n_23) 23 n_24) 29 n_25) 27 f_26) 32 n_27) 30 f_28) 31 n_29) 24 f_30) 26 f_31) 40 n_32) 29 n_40) 27 f_41)) H := hP
            have hD : va_D A (mwd y ad zw (tI (sI (sI (tI (tI (sI (tI (sI (tI (sI (sI (sI (sI (sI (sI (sI (sI (sI (tI (tI (sI (tI (sI (tI (sI (sI (sI (sI (sI (sI σ 2 n_1) 4 n_2) 5 n_3) 6 n_4) 23 n_5) 29 n_6) 27 f_7) 32 n_8) 30 f_9) 31 n_10) 24 f_11) 26 f_12) 40 n_13) 2 n_17) 2 i_19) 2 n_20) 4 n_21) 5 n_22) 6 n_23) 23 n_24) 29 n_25) 27 f_26) 32 n_27) 30 f_28) 31 n_29) 24 f_30) 26 f_31) 40 n_32) 29 n_40) 27 f_41)) := hD
            replace hw : n_40.toInt = (n_25).toInt + 1 ∧ f_41 = upd (f_26) (n_25).toInt.toNat (11 : Int32) := hw
            obtain ⟨hcd1, hcd2⟩ := hw
            have hP9 : PC (σ.2.2.1 27) f_41 (σ.2.2.1 30) f_28 ((σ.1 29).toInt.toNat) (n_40.toInt.toNat) ((σ.1 31).toInt.toNat) (1000 + (f_30 4).toInt) [false] := by rw [hcd2, show n_40.toInt.toNat = n_25.toInt.toNat + 1 by omega]; exact PC_cmp hP3 ⟨by decide, by decide⟩ (by have h7 : (11 : Int32).toInt = 11 := rfl; omega)
            have hP : va_P D vwCl (mwd y ad zw (sI (tI (tI (sI (tI (sI (tI (sI (sI (sI (sI (sI (sI σ 2 n_20) 4 n_21) 5 n_22) 6 n_23) 23 n_24) 29 n_40) 27 f_41) 32 n_27) 30 f_28) 31 n_29) 24 f_30) 26 f_31) 40 n_32)) H := hP
            have hD : va_D A (mwd y ad zw (sI (tI (tI (sI (tI (sI (tI (sI (sI (sI (sI (sI (sI σ 2 n_20) 4 n_21) 5 n_22) 6 n_23) 23 n_24) 29 n_40) 27 f_41) 32 n_27) 30 f_28) 31 n_29) 24 f_30) 26 f_31) 40 n_32)) := hD
            exact x_vretW (u := (n_20, n_21, n_22, n_23, n_24, n_40, f_41, n_27, f_28, n_29, f_30, f_31, n_32)) hx hb hr hQ (by (try dsimp only); exact ⟨⟨by omega, by omega, by omega, by omega, by omega, by omega, by omega, hhb, by omega, by omega, (ht11.trans hp11), fun h9 => ⟨by omega, by omega, by omega, by omega, by omega, hP9⟩⟩, hg_33⟩) hP hD hK hS dX12_fact_87 hlocks
        · clear hti
          refine lv_aload_n hx hb dX12_fact_59 rfl (lv_at hl 1 rfl) ?_
          refine lv_iload_n hx hb dX12_fact_60 rfl (lv_at hl 0 rfl) ?_
          refine lv_bipush (v := 60) hx hb dX12_fact_61 (by decide) ?_
          refine lv_icmp_ne (tgt := 71) hx hb dX12_fact_63 (by decide) (fun c_42 => ?_) (fun c_42 => ?_)
          · have kc_42 : r_16.toInt ≠ 60 := by have h9 := c_42; simp only [ge_iff_le, gt_iff_lt, x_lt, x_le, x_eq, ne_eq, Int32.not_lt, Int32.not_le] at h9; simp only [Int32.reduceToInt] at h9; omega
            refine lv_iload_n hx hb dX12_fact_71 rfl (lv_at hl 0 rfl) ?_
            refine lv_bipush (v := 62) hx hb dX12_fact_72 (by decide) ?_
            refine lv_icmp_ne (tgt := 82) hx hb dX12_fact_74 (by decide) (fun c_43 => ?_) (fun c_43 => ?_)
            · have kc_43 : r_16.toInt ≠ 62 := by have h9 := c_43; simp only [ge_iff_le, gt_iff_lt, x_lt, x_le, x_eq, ne_eq, Int32.not_lt, Int32.not_le] at h9; simp only [Int32.reduceToInt] at h9; omega
              refine lv_bipush (v := 13) hx hb dX12_fact_82 (by decide) ?_
              refine x_callvW (va_runV (As := [.int 13]) (rest := []) ⟨hx, hb, hml, hown, hts⟩ (q_code l D y H.size ad zw (sI (tI (tI (sI (tI (sI (tI (sI (sI (sI (sI (sI (sI (sI (sI (sI (tI (tI (sI (tI (sI (tI (sI (sI (sI (sI (sI (sI σ 2 n_1) 4 n_2) 5 n_3) 6 n_4) 23 n_5) 29 n_6) 27 f_7) 32 n_8) 30 f_9) 31 n_10) 24 f_11) 26 f_12) 40 n_13) 2 n_17) 2 i_19) 2 n_20) 4 n_21) 5 n_22) 6 n_23) 23 n_24) 29 n_25) 27 f_26) 32 n_27) 30 f_28) 31 n_29) 24 f_30) 26 f_31) 40 n_32) 13 (show 0 ≤ (n_25).toInt from by first | omega | decide) (show (n_25).toInt < 1200 from by first | omega | decide)) (cwV 1 hts g_q_fact_2 rfl rfl rfl (by decide +kernel) ⟨Nat.le_of_ble_eq_true rfl, Nat.le_of_ble_eq_true rfl⟩) (x_preV (q := (RX12, TX12, 85)) hK hP hD (ci := 11) (q0 := 0) rfl mwd_o0) rfl rfl hl.1 rfl (lv_room (Nat.le_of_ble_eq_true rfl)) dX12_fact_84 ⟨Nat.le_of_ble_eq_true rfl, Nat.le_of_ble_eq_true rfl⟩) hP hD hS hA (fun u H locs hw hP hD hS => ?_)
              obtain ⟨n_44, f_45⟩ := u
              try dsimp only at hw
              have hP : va_P D vwCl (mwd y ad zw (tI (sI (sI (tI (tI (sI (tI (sI (tI (sI (sI (sI (sI (sI (sI (sI (sI (sI (tI (tI (sI (tI (sI (tI (sI (sI (sI (sI (sI (sI σ 2 n_1) 4 n_2) 5 n_3) 6 n_4) 23 n_5) 29 n_6) 27 f_7) 32 n_8) 30 f_9) 31 n_10) 24 f_11) 26 f_12) 40 n_13) 2 n_17) 2 i_19) 2 n_20) 4 n_21) 5 n_22) 6 n_23) 23 n_24) 29 n_25) 27 f_26) 32 n_27) 30 f_28) 31 n_29) 24 f_30) 26 f_31) 40 n_32) 29 n_44) 27 f_45)) H := hP
              have hD : va_D A (mwd y ad zw (tI (sI (sI (tI (tI (sI (tI (sI (tI (sI (sI (sI (sI (sI (sI (sI (sI (sI (tI (tI (sI (tI (sI (tI (sI (sI (sI (sI (sI (sI σ 2 n_1) 4 n_2) 5 n_3) 6 n_4) 23 n_5) 29 n_6) 27 f_7) 32 n_8) 30 f_9) 31 n_10) 24 f_11) 26 f_12) 40 n_13) 2 n_17) 2 i_19) 2 n_20) 4 n_21) 5 n_22) 6 n_23) 23 n_24) 29 n_25) 27 f_26) 32 n_27) 30 f_28) 31 n_29) 24 f_30) 26 f_31) 40 n_32) 29 n_44) 27 f_45)) := hD
              replace hw : n_44.toInt = (n_25).toInt + 1 ∧ f_45 = upd (f_26) (n_25).toInt.toNat (13 : Int32) := hw
              obtain ⟨hcd1, hcd2⟩ := hw
              have hP : va_P D vwCl (mwd y ad zw (sI (tI (tI (sI (tI (sI (tI (sI (sI (sI (sI (sI (sI σ 2 n_20) 4 n_21) 5 n_22) 6 n_23) 23 n_24) 29 n_44) 27 f_45) 32 n_27) 30 f_28) 31 n_29) 24 f_30) 26 f_31) 40 n_32)) H := hP
              have hD : va_D A (mwd y ad zw (sI (tI (tI (sI (tI (sI (tI (sI (sI (sI (sI (sI (sI σ 2 n_20) 4 n_21) 5 n_22) 6 n_23) 23 n_24) 29 n_44) 27 f_45) 32 n_27) 30 f_28) 31 n_29) 24 f_30) 26 f_31) 40 n_32)) := hD
              exact x_vretW (u := (n_20, n_21, n_22, n_23, n_24, n_44, f_45, n_27, f_28, n_29, f_30, f_31, n_32)) hx hb hr hQ (by (try dsimp only); exact ⟨⟨by omega, by omega, by omega, by omega, by omega, by omega, by omega, hhb, by omega, by omega, (ht11.trans hp11), fun h9 => absurd h9 (by omega)⟩, hg_33⟩) hP hD hK hS dX12_fact_87 hlocks
            · have kc_43 : r_16.toInt = 62 := by have h9 := c_43; simp only [ge_iff_le, gt_iff_lt, x_lt, x_le, x_eq, ne_eq, Int32.not_lt, Int32.not_le] at h9; simp only [Int32.reduceToInt] at h9; omega
              refine lv_bipush (v := 12) hx hb dX12_fact_77 (by decide) ?_
              refine lv_goto (tgt := 84) hx hb dX12_fact_79 (by decide) ?_
              refine x_callvW (va_runV (As := [.int 12]) (rest := []) ⟨hx, hb, hml, hown, hts⟩ (q_code l D y H.size ad zw (sI (tI (tI (sI (tI (sI (tI (sI (sI (sI (sI (sI (sI (sI (sI (sI (tI (tI (sI (tI (sI (tI (sI (sI (sI (sI (sI (sI σ 2 n_1) 4 n_2) 5 n_3) 6 n_4) 23 n_5) 29 n_6) 27 f_7) 32 n_8) 30 f_9) 31 n_10) 24 f_11) 26 f_12) 40 n_13) 2 n_17) 2 i_19) 2 n_20) 4 n_21) 5 n_22) 6 n_23) 23 n_24) 29 n_25) 27 f_26) 32 n_27) 30 f_28) 31 n_29) 24 f_30) 26 f_31) 40 n_32) 12 (show 0 ≤ (n_25).toInt from by first | omega | decide) (show (n_25).toInt < 1200 from by first | omega | decide)) (cwV 1 hts g_q_fact_2 rfl rfl rfl (by decide +kernel) ⟨Nat.le_of_ble_eq_true rfl, Nat.le_of_ble_eq_true rfl⟩) (x_preV (q := (RX12, TX12, 85)) hK hP hD (ci := 11) (q0 := 0) rfl mwd_o0) rfl rfl hl.1 rfl (lv_room (Nat.le_of_ble_eq_true rfl)) dX12_fact_84 ⟨Nat.le_of_ble_eq_true rfl, Nat.le_of_ble_eq_true rfl⟩) hP hD hS hA (fun u H locs hw hP hD hS => ?_)
              obtain ⟨n_46, f_47⟩ := u
              try dsimp only at hw
              have hP : va_P D vwCl (mwd y ad zw (tI (sI (sI (tI (tI (sI (tI (sI (tI (sI (sI (sI (sI (sI (sI (sI (sI (sI (tI (tI (sI (tI (sI (tI (sI (sI (sI (sI (sI (sI σ 2 n_1) 4 n_2) 5 n_3) 6 n_4) 23 n_5) 29 n_6) 27 f_7) 32 n_8) 30 f_9) 31 n_10) 24 f_11) 26 f_12) 40 n_13) 2 n_17) 2 i_19) 2 n_20) 4 n_21) 5 n_22) 6 n_23) 23 n_24) 29 n_25) 27 f_26) 32 n_27) 30 f_28) 31 n_29) 24 f_30) 26 f_31) 40 n_32) 29 n_46) 27 f_47)) H := hP
              have hD : va_D A (mwd y ad zw (tI (sI (sI (tI (tI (sI (tI (sI (tI (sI (sI (sI (sI (sI (sI (sI (sI (sI (tI (tI (sI (tI (sI (tI (sI (sI (sI (sI (sI (sI σ 2 n_1) 4 n_2) 5 n_3) 6 n_4) 23 n_5) 29 n_6) 27 f_7) 32 n_8) 30 f_9) 31 n_10) 24 f_11) 26 f_12) 40 n_13) 2 n_17) 2 i_19) 2 n_20) 4 n_21) 5 n_22) 6 n_23) 23 n_24) 29 n_25) 27 f_26) 32 n_27) 30 f_28) 31 n_29) 24 f_30) 26 f_31) 40 n_32) 29 n_46) 27 f_47)) := hD
              replace hw : n_46.toInt = (n_25).toInt + 1 ∧ f_47 = upd (f_26) (n_25).toInt.toNat (12 : Int32) := hw
              obtain ⟨hcd1, hcd2⟩ := hw
              have hP : va_P D vwCl (mwd y ad zw (sI (tI (tI (sI (tI (sI (tI (sI (sI (sI (sI (sI (sI σ 2 n_20) 4 n_21) 5 n_22) 6 n_23) 23 n_24) 29 n_46) 27 f_47) 32 n_27) 30 f_28) 31 n_29) 24 f_30) 26 f_31) 40 n_32)) H := hP
              have hD : va_D A (mwd y ad zw (sI (tI (tI (sI (tI (sI (tI (sI (sI (sI (sI (sI (sI σ 2 n_20) 4 n_21) 5 n_22) 6 n_23) 23 n_24) 29 n_46) 27 f_47) 32 n_27) 30 f_28) 31 n_29) 24 f_30) 26 f_31) 40 n_32)) := hD
              exact x_vretW (u := (n_20, n_21, n_22, n_23, n_24, n_46, f_47, n_27, f_28, n_29, f_30, f_31, n_32)) hx hb hr hQ (by (try dsimp only); exact ⟨⟨by omega, by omega, by omega, by omega, by omega, by omega, by omega, hhb, by omega, by omega, (ht11.trans hp11), fun h9 => absurd h9 (by omega)⟩, hg_33⟩) hP hD hK hS dX12_fact_87 hlocks
          · have kc_42 : r_16.toInt = 60 := by have h9 := c_42; simp only [ge_iff_le, gt_iff_lt, x_lt, x_le, x_eq, ne_eq, Int32.not_lt, Int32.not_le] at h9; simp only [Int32.reduceToInt] at h9; omega
            refine lv_bipush (v := 11) hx hb dX12_fact_66 (by decide) ?_
            refine lv_goto (tgt := 84) hx hb dX12_fact_68 (by decide) ?_
            refine x_callvW (va_runV (As := [.int 11]) (rest := []) ⟨hx, hb, hml, hown, hts⟩ (q_code l D y H.size ad zw (sI (tI (tI (sI (tI (sI (tI (sI (sI (sI (sI (sI (sI (sI (sI (sI (tI (tI (sI (tI (sI (tI (sI (sI (sI (sI (sI (sI σ 2 n_1) 4 n_2) 5 n_3) 6 n_4) 23 n_5) 29 n_6) 27 f_7) 32 n_8) 30 f_9) 31 n_10) 24 f_11) 26 f_12) 40 n_13) 2 n_17) 2 i_19) 2 n_20) 4 n_21) 5 n_22) 6 n_23) 23 n_24) 29 n_25) 27 f_26) 32 n_27) 30 f_28) 31 n_29) 24 f_30) 26 f_31) 40 n_32) 11 (show 0 ≤ (n_25).toInt from by first | omega | decide) (show (n_25).toInt < 1200 from by first | omega | decide)) (cwV 1 hts g_q_fact_2 rfl rfl rfl (by decide +kernel) ⟨Nat.le_of_ble_eq_true rfl, Nat.le_of_ble_eq_true rfl⟩) (x_preV (q := (RX12, TX12, 85)) hK hP hD (ci := 11) (q0 := 0) rfl mwd_o0) rfl rfl hl.1 rfl (lv_room (Nat.le_of_ble_eq_true rfl)) dX12_fact_84 ⟨Nat.le_of_ble_eq_true rfl, Nat.le_of_ble_eq_true rfl⟩) hP hD hS hA (fun u H locs hw hP hD hS => ?_)
            obtain ⟨n_48, f_49⟩ := u
            try dsimp only at hw
            have hP : va_P D vwCl (mwd y ad zw (tI (sI (sI (tI (tI (sI (tI (sI (tI (sI (sI (sI (sI (sI (sI (sI (sI (sI (tI (tI (sI (tI (sI (tI (sI (sI (sI (sI (sI (sI σ 2 n_1) 4 n_2) 5 n_3) 6 n_4) 23 n_5) 29 n_6) 27 f_7) 32 n_8) 30 f_9) 31 n_10) 24 f_11) 26 f_12) 40 n_13) 2 n_17) 2 i_19) 2 n_20) 4 n_21) 5 n_22) 6 n_23) 23 n_24) 29 n_25) 27 f_26) 32 n_27) 30 f_28) 31 n_29) 24 f_30) 26 f_31) 40 n_32) 29 n_48) 27 f_49)) H := hP
            have hD : va_D A (mwd y ad zw (tI (sI (sI (tI (tI (sI (tI (sI (tI (sI (sI (sI (sI (sI (sI (sI (sI (sI (tI (tI (sI (tI (sI (tI (sI (sI (sI (sI (sI (sI σ 2 n_1) 4 n_2) 5 n_3) 6 n_4) 23 n_5) 29 n_6) 27 f_7) 32 n_8) 30 f_9) 31 n_10) 24 f_11) 26 f_12) 40 n_13) 2 n_17) 2 i_19) 2 n_20) 4 n_21) 5 n_22) 6 n_23) 23 n_24) 29 n_25) 27 f_26) 32 n_27) 30 f_28) 31 n_29) 24 f_30) 26 f_31) 40 n_32) 29 n_48) 27 f_49)) := hD
            replace hw : n_48.toInt = (n_25).toInt + 1 ∧ f_49 = upd (f_26) (n_25).toInt.toNat (11 : Int32) := hw
            obtain ⟨hcd1, hcd2⟩ := hw
            have hP : va_P D vwCl (mwd y ad zw (sI (tI (tI (sI (tI (sI (tI (sI (sI (sI (sI (sI (sI σ 2 n_20) 4 n_21) 5 n_22) 6 n_23) 23 n_24) 29 n_48) 27 f_49) 32 n_27) 30 f_28) 31 n_29) 24 f_30) 26 f_31) 40 n_32)) H := hP
            have hD : va_D A (mwd y ad zw (sI (tI (tI (sI (tI (sI (tI (sI (sI (sI (sI (sI (sI σ 2 n_20) 4 n_21) 5 n_22) 6 n_23) 23 n_24) 29 n_48) 27 f_49) 32 n_27) 30 f_28) 31 n_29) 24 f_30) 26 f_31) 40 n_32)) := hD
            exact x_vretW (u := (n_20, n_21, n_22, n_23, n_24, n_48, f_49, n_27, f_28, n_29, f_30, f_31, n_32)) hx hb hr hQ (by (try dsimp only); exact ⟨⟨by omega, by omega, by omega, by omega, by omega, by omega, by omega, hhb, by omega, by omega, (ht11.trans hp11), fun h9 => absurd h9 (by omega)⟩, hg_33⟩) hP hD hK hS dX12_fact_87 hlocks
      · have kc_18 : r_16.toInt ≠ 60 := by have h9 := c_18; simp only [ge_iff_le, gt_iff_lt, x_lt, x_le, x_eq, ne_eq, Int32.not_lt, Int32.not_le] at h9; simp only [Int32.reduceToInt] at h9; omega
        refine lv_iload_n hx hb dX12_fact_23 rfl (lv_at hl 0 rfl) ?_
        refine lv_bipush (v := 62) hx hb dX12_fact_24 (by decide) ?_
        refine lv_icmp_eq (tgt := 45) hx hb dX12_fact_26 (by decide) (fun c_50 => ?_) (fun c_50 => ?_)
        · have kc_50 : r_16.toInt = 62 := by have h9 := c_50; simp only [ge_iff_le, gt_iff_lt, x_lt, x_le, x_eq, ne_eq, Int32.not_lt, Int32.not_le] at h9; simp only [Int32.reduceToInt] at h9; omega
          refine lv_aload_n hx hb dX12_fact_45 rfl (lv_at hl 1 rfl) ?_
          refine lv_dup hx hb dX12_fact_46 rfl ?_
          refine va_get (D := D) (ci := 11) (v := .int n_17) (C := RX12) (T := TX12) (N := 85) hx hb hts inX12 hown hK hP 0 mwd_o0 rfl 2 (by decide) fl197 (fun _ h9 => h9) rfl dX12_fact_47 ?_
          refine lv_iconst (v := 1) hx hb dX12_fact_50 (by decide) ?_
          refine lv_iadd hx hb dX12_fact_51 ?_
          refine lv_topi (fun i_51 ei_51 => ?_)
          have vi_51 : i_51.toInt = n_17.toInt + 1 := by have h9 := x_add ei_51 (by omega) (by omega); omega
          refine va_put (D := D) (ci := 11) (v := .int i_51) (ty := .int) (C := RX12) (T := TX12) (N := 85) hx hb hts inX12 tyX12 tyX12_ok nmX12 hown hK hP hD hS 0 mwd_o0 rfl 2 (by decide) fl197 (fun _ h9 => h9) rfl (by decide +kernel) rfl rfl (Nat.le_of_ble_eq_true rfl) dX12_fact_52 (fun H locs hP hD hS => ?_)
          have hP : va_P D vwCl (mwd y ad zw (sI (sI (sI (tI (tI (sI (tI (sI (tI (sI (sI (sI (sI (sI (sI σ 2 n_1) 4 n_2) 5 n_3) 6 n_4) 23 n_5) 29 n_6) 27 f_7) 32 n_8) 30 f_9) 31 n_10) 24 f_11) 26 f_12) 40 n_13) 2 n_17) 2 i_51)) H := x_trP hP mwd_p0_2
          have hD : va_D A (mwd y ad zw (sI (sI (sI (tI (tI (sI (tI (sI (tI (sI (sI (sI (sI (sI (sI σ 2 n_1) 4 n_2) 5 n_3) 6 n_4) 23 n_5) 29 n_6) 27 f_7) 32 n_8) 30 f_9) 31 n_10) 24 f_11) 26 f_12) 40 n_13) 2 n_17) 2 i_51)) := x_trD hD mwd_p0_2
          refine lv_aload_n hx hb dX12_fact_55 rfl (lv_at hl 1 rfl) ?_
          have hlo2 : ∀ k : Nat, k < n_10.toInt.toNat → ¬ (1 ≤ (f_9 k).toInt ∧ (f_9 k).toInt ≤ 4) := fun k h9 => by rw [hP1.2.2.2.1 k (by omega)]; exact hlo k (by omega)
          have hoc2 : (oc f_9 n_10.toInt.toNat : Int) ≤ n_8.toInt := by rw [show n_10.toInt.toNat = (σ.1 31).toInt.toNat by omega, oc_congr hP1.2.2.2.1]; omega
          have hoc3 : (oc f_9 n_10.toInt.toNat : Int) = (oc (σ.2.2.1 30) ((σ.1 31).toInt.toNat) : Int) := by rw [show n_10.toInt.toNat = (σ.1 31).toInt.toNat by omega, oc_congr hP1.2.2.2.1]
          refine x_callvW (va_runV (As := []) (rest := []) ⟨hx, hb, hml, hown, hts⟩ (q_sums l D y H.size ad zw (sI (sI (sI (tI (tI (sI (tI (sI (tI (sI (sI (sI (sI (sI (sI σ 2 n_1) 4 n_2) 5 n_3) 6 n_4) 23 n_5) 29 n_6) 27 f_7) 32 n_8) 30 f_9) 31 n_10) 24 f_11) 26 f_12) 40 n_13) 2 n_17) 2 i_51) (show 0 ≤ (i_51).toInt from by first | omega | decide) (show (i_51).toInt ≤ ((σ.1 3)).toInt from by first | omega | decide) (show ((σ.1 3)).toInt ≤ 700 from by first | omega | decide) (show (n_3).toInt = 0 from by first | omega | decide) (show 0 ≤ ((σ.1 33)).toInt from by first | omega | decide) (show ((σ.1 33)).toInt ≤ 24 from by first | omega | decide) (show 0 ≤ (n_8).toInt from by first | omega | decide) (show (n_8).toInt ≤ 8 from by first | omega | decide) (show 0 ≤ (n_10).toInt from by first | omega | decide) (show 0 ≤ (n_6).toInt from by first | omega | decide) (show (n_6).toInt + (n_10).toInt ≤ (i_51).toInt + 20 from by first | omega | decide) (show 0 ≤ (f_11 4).toInt from by first | omega | decide) (show (f_11 4).toInt ≤ (i_51).toInt + 20 from by first | omega | decide) hlo2 hoc2 hB35 hg_14) (cwV 0 hts g_q_fact_0 rfl rfl rfl (by decide +kernel) ⟨Nat.le_of_ble_eq_true rfl, Nat.le_of_ble_eq_true rfl⟩) (x_preV (q := (RX12, TX12, 85)) hK hP hD (ci := 11) (q0 := 0) rfl mwd_o0) rfl rfl hl.1 rfl (lv_room (Nat.le_of_ble_eq_true rfl)) dX12_fact_56 ⟨Nat.le_of_ble_eq_true rfl, Nat.le_of_ble_eq_true rfl⟩) hP hD hS hA (fun u H locs hw hP hD hS => ?_)
          obtain ⟨n_52, n_53, n_54, n_55, n_56, n_57, f_58, n_59, f_60, n_61, f_62, f_63, n_64⟩ := u
          try dsimp only at hw
          have hP : va_P D vwCl (mwd y ad zw (sI (tI (tI (sI (tI (sI (tI (sI (sI (sI (sI (sI (sI (sI (sI (sI (tI (tI (sI (tI (sI (tI (sI (sI (sI (sI (sI (sI σ 2 n_1) 4 n_2) 5 n_3) 6 n_4) 23 n_5) 29 n_6) 27 f_7) 32 n_8) 30 f_9) 31 n_10) 24 f_11) 26 f_12) 40 n_13) 2 n_17) 2 i_51) 2 n_52) 4 n_53) 5 n_54) 6 n_55) 23 n_56) 29 n_57) 27 f_58) 32 n_59) 30 f_60) 31 n_61) 24 f_62) 26 f_63) 40 n_64)) H := hP
          have hD : va_D A (mwd y ad zw (sI (tI (tI (sI (tI (sI (tI (sI (sI (sI (sI (sI (sI (sI (sI (sI (tI (tI (sI (tI (sI (tI (sI (sI (sI (sI (sI (sI σ 2 n_1) 4 n_2) 5 n_3) 6 n_4) 23 n_5) 29 n_6) 27 f_7) 32 n_8) 30 f_9) 31 n_10) 24 f_11) 26 f_12) 40 n_13) 2 n_17) 2 i_51) 2 n_52) 4 n_53) 5 n_54) 6 n_55) 23 n_56) 29 n_57) 27 f_58) 32 n_59) 30 f_60) 31 n_61) 24 f_62) 26 f_63) 40 n_64)) := hD
          replace hw : ((i_51).toInt ≤ n_52.toInt ∧ n_52.toInt ≤ ((σ.1 3)).toInt ∧ 0 ≤ n_59.toInt ∧ n_59.toInt ≤ 8 ∧ 0 ≤ n_61.toInt ∧ (n_6).toInt ≤ n_57.toInt ∧ n_57.toInt + n_61.toInt - n_52.toInt ≤ (n_6).toInt + (n_10).toInt - (i_51).toInt + 1 ∧ (∀ k : Nat, k ≠ 4 → f_62 k = f_11 k) ∧ (f_11 4).toInt ≤ (f_62 4).toInt ∧ (f_62 4).toInt - n_52.toInt ≤ (f_11 4).toInt - (i_51).toInt + 1 ∧ n_64 = (n_13) ∧ (n_54.toInt = 0 → (i_51).toInt + 1 ≤ n_52.toInt ∧ n_57.toInt + n_61.toInt - n_52.toInt ≤ (n_6).toInt + (n_10).toInt - (i_51).toInt ∧ (f_62 4).toInt - n_52.toInt ≤ (f_11 4).toInt - (i_51).toInt ∧ n_61.toInt = (n_10).toInt ∧ ES (f_7) f_58 (f_9) f_60 ((n_6).toInt.toNat) (n_57.toInt.toNat) ((n_10).toInt.toNat) (n_61.toInt.toNat) 1 (1000 + (f_62 4).toInt) n_59.toInt ((n_8).toInt - (oc (f_9) (n_10).toInt.toNat : Int)))) ∧ bI f_63 0 9999 := hw
          obtain ⟨hw, hg_65⟩ := hw
          obtain ⟨ht1, ht2, ht3, ht4, ht5, ht6, ht7, ht8, ht9, ht10, ht11, hti⟩ := hw
          have hhb : ∀ k : Nat, k ≠ 4 → f_62 k = σ.2.2.1 24 k := fun k h9 => (ht8 k h9).trans (hp8 k h9)
          rcases Classical.em (n_54.toInt = 0) with hbz2 | hbz2
          · obtain ⟨hu1, hu2, hu3, hu4, hu5⟩ := hti hbz2
            clear hti
            obtain ⟨hP2, hO2⟩ := PC_ES hu5 (by omega)
            clear hu5
            rw [show n_10.toInt.toNat = (σ.1 31).toInt.toNat by omega] at hP2
            have hP3 := PC_seq hP1 hP2 (by omega)
            refine lv_aload_n hx hb dX12_fact_59 rfl (lv_at hl 1 rfl) ?_
            refine lv_iload_n hx hb dX12_fact_60 rfl (lv_at hl 0 rfl) ?_
            refine lv_bipush (v := 60) hx hb dX12_fact_61 (by decide) ?_
            refine lv_icmp_ne (tgt := 71) hx hb dX12_fact_63 (by decide) (fun c_66 => ?_) (fun c_66 => ?_)
            · have kc_66 : r_16.toInt ≠ 60 := by have h9 := c_66; simp only [ge_iff_le, gt_iff_lt, x_lt, x_le, x_eq, ne_eq, Int32.not_lt, Int32.not_le] at h9; simp only [Int32.reduceToInt] at h9; omega
              refine lv_iload_n hx hb dX12_fact_71 rfl (lv_at hl 0 rfl) ?_
              refine lv_bipush (v := 62) hx hb dX12_fact_72 (by decide) ?_
              refine lv_icmp_ne (tgt := 82) hx hb dX12_fact_74 (by decide) (fun c_67 => ?_) (fun c_67 => ?_)
              · have kc_67 : r_16.toInt ≠ 62 := by have h9 := c_67; simp only [ge_iff_le, gt_iff_lt, x_lt, x_le, x_eq, ne_eq, Int32.not_lt, Int32.not_le] at h9; simp only [Int32.reduceToInt] at h9; omega
                refine lv_bipush (v := 13) hx hb dX12_fact_82 (by decide) ?_
                refine x_callvW (va_runV (As := [.int 13]) (rest := []) ⟨hx, hb, hml, hown, hts⟩ (q_code l D y H.size ad zw (sI (tI (tI (sI (tI (sI (tI (sI (sI (sI (sI (sI (sI (sI (sI (sI (tI (tI (sI (tI (sI (tI (sI (sI (sI (sI (sI (sI σ 2 n_1) 4 n_2) 5 n_3) 6 n_4) 23 n_5) 29 n_6) 27 f_7) 32 n_8) 30 f_9) 31 n_10) 24 f_11) 26 f_12) 40 n_13) 2 n_17) 2 i_51) 2 n_52) 4 n_53) 5 n_54) 6 n_55) 23 n_56) 29 n_57) 27 f_58) 32 n_59) 30 f_60) 31 n_61) 24 f_62) 26 f_63) 40 n_64) 13 (show 0 ≤ (n_57).toInt from by first | omega | decide) (show (n_57).toInt < 1200 from by first | omega | decide)) (cwV 1 hts g_q_fact_2 rfl rfl rfl (by decide +kernel) ⟨Nat.le_of_ble_eq_true rfl, Nat.le_of_ble_eq_true rfl⟩) (x_preV (q := (RX12, TX12, 85)) hK hP hD (ci := 11) (q0 := 0) rfl mwd_o0) rfl rfl hl.1 rfl (lv_room (Nat.le_of_ble_eq_true rfl)) dX12_fact_84 ⟨Nat.le_of_ble_eq_true rfl, Nat.le_of_ble_eq_true rfl⟩) hP hD hS hA (fun u H locs hw hP hD hS => ?_)
                obtain ⟨n_68, f_69⟩ := u
                try dsimp only at hw
                have hP : va_P D vwCl (mwd y ad zw (tI (sI (sI (tI (tI (sI (tI (sI (tI (sI (sI (sI (sI (sI (sI (sI (sI (sI (tI (tI (sI (tI (sI (tI (sI (sI (sI (sI (sI (sI σ 2 n_1) 4 n_2) 5 n_3) 6 n_4) 23 n_5) 29 n_6) 27 f_7) 32 n_8) 30 f_9) 31 n_10) 24 f_11) 26 f_12) 40 n_13) 2 n_17) 2 i_51) 2 n_52) 4 n_53) 5 n_54) 6 n_55) 23 n_56) 29 n_57) 27 f_58) 32 n_59) 30 f_60) 31 n_61) 24 f_62) 26 f_63) 40 n_64) 29 n_68) 27 f_69)) H := hP
                have hD : va_D A (mwd y ad zw (tI (sI (sI (tI (tI (sI (tI (sI (tI (sI (sI (sI (sI (sI (sI (sI (sI (sI (tI (tI (sI (tI (sI (tI (sI (sI (sI (sI (sI (sI σ 2 n_1) 4 n_2) 5 n_3) 6 n_4) 23 n_5) 29 n_6) 27 f_7) 32 n_8) 30 f_9) 31 n_10) 24 f_11) 26 f_12) 40 n_13) 2 n_17) 2 i_51) 2 n_52) 4 n_53) 5 n_54) 6 n_55) 23 n_56) 29 n_57) 27 f_58) 32 n_59) 30 f_60) 31 n_61) 24 f_62) 26 f_63) 40 n_64) 29 n_68) 27 f_69)) := hD
                replace hw : n_68.toInt = (n_57).toInt + 1 ∧ f_69 = upd (f_58) (n_57).toInt.toNat (13 : Int32) := hw
                obtain ⟨hcd1, hcd2⟩ := hw
                have hP9 : PC (σ.2.2.1 27) f_69 (σ.2.2.1 30) f_60 ((σ.1 29).toInt.toNat) (n_68.toInt.toNat) ((σ.1 31).toInt.toNat) (1000 + (f_62 4).toInt) [false] := by rw [hcd2, show n_68.toInt.toNat = n_57.toInt.toNat + 1 by omega]; exact PC_cmp hP3 ⟨by decide, by decide⟩ (by have h7 : (13 : Int32).toInt = 13 := rfl; omega)
                have hP : va_P D vwCl (mwd y ad zw (sI (tI (tI (sI (tI (sI (tI (sI (sI (sI (sI (sI (sI σ 2 n_52) 4 n_53) 5 n_54) 6 n_55) 23 n_56) 29 n_68) 27 f_69) 32 n_59) 30 f_60) 31 n_61) 24 f_62) 26 f_63) 40 n_64)) H := hP
                have hD : va_D A (mwd y ad zw (sI (tI (tI (sI (tI (sI (tI (sI (sI (sI (sI (sI (sI σ 2 n_52) 4 n_53) 5 n_54) 6 n_55) 23 n_56) 29 n_68) 27 f_69) 32 n_59) 30 f_60) 31 n_61) 24 f_62) 26 f_63) 40 n_64)) := hD
                exact x_vretW (u := (n_52, n_53, n_54, n_55, n_56, n_68, f_69, n_59, f_60, n_61, f_62, f_63, n_64)) hx hb hr hQ (by (try dsimp only); exact ⟨⟨by omega, by omega, by omega, by omega, by omega, by omega, by omega, hhb, by omega, by omega, (ht11.trans hp11), fun h9 => ⟨by omega, by omega, by omega, by omega, by omega, hP9⟩⟩, hg_65⟩) hP hD hK hS dX12_fact_87 hlocks
              · have kc_67 : r_16.toInt = 62 := by have h9 := c_67; simp only [ge_iff_le, gt_iff_lt, x_lt, x_le, x_eq, ne_eq, Int32.not_lt, Int32.not_le] at h9; simp only [Int32.reduceToInt] at h9; omega
                refine lv_bipush (v := 12) hx hb dX12_fact_77 (by decide) ?_
                refine lv_goto (tgt := 84) hx hb dX12_fact_79 (by decide) ?_
                refine x_callvW (va_runV (As := [.int 12]) (rest := []) ⟨hx, hb, hml, hown, hts⟩ (q_code l D y H.size ad zw (sI (tI (tI (sI (tI (sI (tI (sI (sI (sI (sI (sI (sI (sI (sI (sI (tI (tI (sI (tI (sI (tI (sI (sI (sI (sI (sI (sI σ 2 n_1) 4 n_2) 5 n_3) 6 n_4) 23 n_5) 29 n_6) 27 f_7) 32 n_8) 30 f_9) 31 n_10) 24 f_11) 26 f_12) 40 n_13) 2 n_17) 2 i_51) 2 n_52) 4 n_53) 5 n_54) 6 n_55) 23 n_56) 29 n_57) 27 f_58) 32 n_59) 30 f_60) 31 n_61) 24 f_62) 26 f_63) 40 n_64) 12 (show 0 ≤ (n_57).toInt from by first | omega | decide) (show (n_57).toInt < 1200 from by first | omega | decide)) (cwV 1 hts g_q_fact_2 rfl rfl rfl (by decide +kernel) ⟨Nat.le_of_ble_eq_true rfl, Nat.le_of_ble_eq_true rfl⟩) (x_preV (q := (RX12, TX12, 85)) hK hP hD (ci := 11) (q0 := 0) rfl mwd_o0) rfl rfl hl.1 rfl (lv_room (Nat.le_of_ble_eq_true rfl)) dX12_fact_84 ⟨Nat.le_of_ble_eq_true rfl, Nat.le_of_ble_eq_true rfl⟩) hP hD hS hA (fun u H locs hw hP hD hS => ?_)
                obtain ⟨n_70, f_71⟩ := u
                try dsimp only at hw
                have hP : va_P D vwCl (mwd y ad zw (tI (sI (sI (tI (tI (sI (tI (sI (tI (sI (sI (sI (sI (sI (sI (sI (sI (sI (tI (tI (sI (tI (sI (tI (sI (sI (sI (sI (sI (sI σ 2 n_1) 4 n_2) 5 n_3) 6 n_4) 23 n_5) 29 n_6) 27 f_7) 32 n_8) 30 f_9) 31 n_10) 24 f_11) 26 f_12) 40 n_13) 2 n_17) 2 i_51) 2 n_52) 4 n_53) 5 n_54) 6 n_55) 23 n_56) 29 n_57) 27 f_58) 32 n_59) 30 f_60) 31 n_61) 24 f_62) 26 f_63) 40 n_64) 29 n_70) 27 f_71)) H := hP
                have hD : va_D A (mwd y ad zw (tI (sI (sI (tI (tI (sI (tI (sI (tI (sI (sI (sI (sI (sI (sI (sI (sI (sI (tI (tI (sI (tI (sI (tI (sI (sI (sI (sI (sI (sI σ 2 n_1) 4 n_2) 5 n_3) 6 n_4) 23 n_5) 29 n_6) 27 f_7) 32 n_8) 30 f_9) 31 n_10) 24 f_11) 26 f_12) 40 n_13) 2 n_17) 2 i_51) 2 n_52) 4 n_53) 5 n_54) 6 n_55) 23 n_56) 29 n_57) 27 f_58) 32 n_59) 30 f_60) 31 n_61) 24 f_62) 26 f_63) 40 n_64) 29 n_70) 27 f_71)) := hD
                replace hw : n_70.toInt = (n_57).toInt + 1 ∧ f_71 = upd (f_58) (n_57).toInt.toNat (12 : Int32) := hw
                obtain ⟨hcd1, hcd2⟩ := hw
                have hP9 : PC (σ.2.2.1 27) f_71 (σ.2.2.1 30) f_60 ((σ.1 29).toInt.toNat) (n_70.toInt.toNat) ((σ.1 31).toInt.toNat) (1000 + (f_62 4).toInt) [false] := by rw [hcd2, show n_70.toInt.toNat = n_57.toInt.toNat + 1 by omega]; exact PC_cmp hP3 ⟨by decide, by decide⟩ (by have h7 : (12 : Int32).toInt = 12 := rfl; omega)
                have hP : va_P D vwCl (mwd y ad zw (sI (tI (tI (sI (tI (sI (tI (sI (sI (sI (sI (sI (sI σ 2 n_52) 4 n_53) 5 n_54) 6 n_55) 23 n_56) 29 n_70) 27 f_71) 32 n_59) 30 f_60) 31 n_61) 24 f_62) 26 f_63) 40 n_64)) H := hP
                have hD : va_D A (mwd y ad zw (sI (tI (tI (sI (tI (sI (tI (sI (sI (sI (sI (sI (sI σ 2 n_52) 4 n_53) 5 n_54) 6 n_55) 23 n_56) 29 n_70) 27 f_71) 32 n_59) 30 f_60) 31 n_61) 24 f_62) 26 f_63) 40 n_64)) := hD
                exact x_vretW (u := (n_52, n_53, n_54, n_55, n_56, n_70, f_71, n_59, f_60, n_61, f_62, f_63, n_64)) hx hb hr hQ (by (try dsimp only); exact ⟨⟨by omega, by omega, by omega, by omega, by omega, by omega, by omega, hhb, by omega, by omega, (ht11.trans hp11), fun h9 => ⟨by omega, by omega, by omega, by omega, by omega, hP9⟩⟩, hg_65⟩) hP hD hK hS dX12_fact_87 hlocks
            · have kc_66 : r_16.toInt = 60 := by have h9 := c_66; simp only [ge_iff_le, gt_iff_lt, x_lt, x_le, x_eq, ne_eq, Int32.not_lt, Int32.not_le] at h9; simp only [Int32.reduceToInt] at h9; omega
              refine lv_bipush (v := 11) hx hb dX12_fact_66 (by decide) ?_
              refine lv_goto (tgt := 84) hx hb dX12_fact_68 (by decide) ?_
              refine x_callvW (va_runV (As := [.int 11]) (rest := []) ⟨hx, hb, hml, hown, hts⟩ (q_code l D y H.size ad zw (sI (tI (tI (sI (tI (sI (tI (sI (sI (sI (sI (sI (sI (sI (sI (sI (tI (tI (sI (tI (sI (tI (sI (sI (sI (sI (sI (sI σ 2 n_1) 4 n_2) 5 n_3) 6 n_4) 23 n_5) 29 n_6) 27 f_7) 32 n_8) 30 f_9) 31 n_10) 24 f_11) 26 f_12) 40 n_13) 2 n_17) 2 i_51) 2 n_52) 4 n_53) 5 n_54) 6 n_55) 23 n_56) 29 n_57) 27 f_58) 32 n_59) 30 f_60) 31 n_61) 24 f_62) 26 f_63) 40 n_64) 11 (show 0 ≤ (n_57).toInt from by first | omega | decide) (show (n_57).toInt < 1200 from by first | omega | decide)) (cwV 1 hts g_q_fact_2 rfl rfl rfl (by decide +kernel) ⟨Nat.le_of_ble_eq_true rfl, Nat.le_of_ble_eq_true rfl⟩) (x_preV (q := (RX12, TX12, 85)) hK hP hD (ci := 11) (q0 := 0) rfl mwd_o0) rfl rfl hl.1 rfl (lv_room (Nat.le_of_ble_eq_true rfl)) dX12_fact_84 ⟨Nat.le_of_ble_eq_true rfl, Nat.le_of_ble_eq_true rfl⟩) hP hD hS hA (fun u H locs hw hP hD hS => ?_)
              obtain ⟨n_72, f_73⟩ := u
              try dsimp only at hw
              have hP : va_P D vwCl (mwd y ad zw (tI (sI (sI (tI (tI (sI (tI (sI (tI (sI (sI (sI (sI (sI (sI (sI (sI (sI (tI (tI (sI (tI (sI (tI (sI (sI (sI (sI (sI (sI σ 2 n_1) 4 n_2) 5 n_3) 6 n_4) 23 n_5) 29 n_6) 27 f_7) 32 n_8) 30 f_9) 31 n_10) 24 f_11) 26 f_12) 40 n_13) 2 n_17) 2 i_51) 2 n_52) 4 n_53) 5 n_54) 6 n_55) 23 n_56) 29 n_57) 27 f_58) 32 n_59) 30 f_60) 31 n_61) 24 f_62) 26 f_63) 40 n_64) 29 n_72) 27 f_73)) H := hP
              have hD : va_D A (mwd y ad zw (tI (sI (sI (tI (tI (sI (tI (sI (tI (sI (sI (sI (sI (sI (sI (sI (sI (sI (tI (tI (sI (tI (sI (tI (sI (sI (sI (sI (sI (sI σ 2 n_1) 4 n_2) 5 n_3) 6 n_4) 23 n_5) 29 n_6) 27 f_7) 32 n_8) 30 f_9) 31 n_10) 24 f_11) 26 f_12) 40 n_13) 2 n_17) 2 i_51) 2 n_52) 4 n_53) 5 n_54) 6 n_55) 23 n_56) 29 n_57) 27 f_58) 32 n_59) 30 f_60) 31 n_61) 24 f_62) 26 f_63) 40 n_64) 29 n_72) 27 f_73)) := hD
              replace hw : n_72.toInt = (n_57).toInt + 1 ∧ f_73 = upd (f_58) (n_57).toInt.toNat (11 : Int32) := hw
              obtain ⟨hcd1, hcd2⟩ := hw
              have hP9 : PC (σ.2.2.1 27) f_73 (σ.2.2.1 30) f_60 ((σ.1 29).toInt.toNat) (n_72.toInt.toNat) ((σ.1 31).toInt.toNat) (1000 + (f_62 4).toInt) [false] := by rw [hcd2, show n_72.toInt.toNat = n_57.toInt.toNat + 1 by omega]; exact PC_cmp hP3 ⟨by decide, by decide⟩ (by have h7 : (11 : Int32).toInt = 11 := rfl; omega)
              have hP : va_P D vwCl (mwd y ad zw (sI (tI (tI (sI (tI (sI (tI (sI (sI (sI (sI (sI (sI σ 2 n_52) 4 n_53) 5 n_54) 6 n_55) 23 n_56) 29 n_72) 27 f_73) 32 n_59) 30 f_60) 31 n_61) 24 f_62) 26 f_63) 40 n_64)) H := hP
              have hD : va_D A (mwd y ad zw (sI (tI (tI (sI (tI (sI (tI (sI (sI (sI (sI (sI (sI σ 2 n_52) 4 n_53) 5 n_54) 6 n_55) 23 n_56) 29 n_72) 27 f_73) 32 n_59) 30 f_60) 31 n_61) 24 f_62) 26 f_63) 40 n_64)) := hD
              exact x_vretW (u := (n_52, n_53, n_54, n_55, n_56, n_72, f_73, n_59, f_60, n_61, f_62, f_63, n_64)) hx hb hr hQ (by (try dsimp only); exact ⟨⟨by omega, by omega, by omega, by omega, by omega, by omega, by omega, hhb, by omega, by omega, (ht11.trans hp11), fun h9 => ⟨by omega, by omega, by omega, by omega, by omega, hP9⟩⟩, hg_65⟩) hP hD hK hS dX12_fact_87 hlocks
          · clear hti
            refine lv_aload_n hx hb dX12_fact_59 rfl (lv_at hl 1 rfl) ?_
            refine lv_iload_n hx hb dX12_fact_60 rfl (lv_at hl 0 rfl) ?_
            refine lv_bipush (v := 60) hx hb dX12_fact_61 (by decide) ?_
            refine lv_icmp_ne (tgt := 71) hx hb dX12_fact_63 (by decide) (fun c_74 => ?_) (fun c_74 => ?_)
            · have kc_74 : r_16.toInt ≠ 60 := by have h9 := c_74; simp only [ge_iff_le, gt_iff_lt, x_lt, x_le, x_eq, ne_eq, Int32.not_lt, Int32.not_le] at h9; simp only [Int32.reduceToInt] at h9; omega
              refine lv_iload_n hx hb dX12_fact_71 rfl (lv_at hl 0 rfl) ?_
              refine lv_bipush (v := 62) hx hb dX12_fact_72 (by decide) ?_
              refine lv_icmp_ne (tgt := 82) hx hb dX12_fact_74 (by decide) (fun c_75 => ?_) (fun c_75 => ?_)
              · have kc_75 : r_16.toInt ≠ 62 := by have h9 := c_75; simp only [ge_iff_le, gt_iff_lt, x_lt, x_le, x_eq, ne_eq, Int32.not_lt, Int32.not_le] at h9; simp only [Int32.reduceToInt] at h9; omega
                refine lv_bipush (v := 13) hx hb dX12_fact_82 (by decide) ?_
                refine x_callvW (va_runV (As := [.int 13]) (rest := []) ⟨hx, hb, hml, hown, hts⟩ (q_code l D y H.size ad zw (sI (tI (tI (sI (tI (sI (tI (sI (sI (sI (sI (sI (sI (sI (sI (sI (tI (tI (sI (tI (sI (tI (sI (sI (sI (sI (sI (sI σ 2 n_1) 4 n_2) 5 n_3) 6 n_4) 23 n_5) 29 n_6) 27 f_7) 32 n_8) 30 f_9) 31 n_10) 24 f_11) 26 f_12) 40 n_13) 2 n_17) 2 i_51) 2 n_52) 4 n_53) 5 n_54) 6 n_55) 23 n_56) 29 n_57) 27 f_58) 32 n_59) 30 f_60) 31 n_61) 24 f_62) 26 f_63) 40 n_64) 13 (show 0 ≤ (n_57).toInt from by first | omega | decide) (show (n_57).toInt < 1200 from by first | omega | decide)) (cwV 1 hts g_q_fact_2 rfl rfl rfl (by decide +kernel) ⟨Nat.le_of_ble_eq_true rfl, Nat.le_of_ble_eq_true rfl⟩) (x_preV (q := (RX12, TX12, 85)) hK hP hD (ci := 11) (q0 := 0) rfl mwd_o0) rfl rfl hl.1 rfl (lv_room (Nat.le_of_ble_eq_true rfl)) dX12_fact_84 ⟨Nat.le_of_ble_eq_true rfl, Nat.le_of_ble_eq_true rfl⟩) hP hD hS hA (fun u H locs hw hP hD hS => ?_)
                obtain ⟨n_76, f_77⟩ := u
                try dsimp only at hw
                have hP : va_P D vwCl (mwd y ad zw (tI (sI (sI (tI (tI (sI (tI (sI (tI (sI (sI (sI (sI (sI (sI (sI (sI (sI (tI (tI (sI (tI (sI (tI (sI (sI (sI (sI (sI (sI σ 2 n_1) 4 n_2) 5 n_3) 6 n_4) 23 n_5) 29 n_6) 27 f_7) 32 n_8) 30 f_9) 31 n_10) 24 f_11) 26 f_12) 40 n_13) 2 n_17) 2 i_51) 2 n_52) 4 n_53) 5 n_54) 6 n_55) 23 n_56) 29 n_57) 27 f_58) 32 n_59) 30 f_60) 31 n_61) 24 f_62) 26 f_63) 40 n_64) 29 n_76) 27 f_77)) H := hP
                have hD : va_D A (mwd y ad zw (tI (sI (sI (tI (tI (sI (tI (sI (tI (sI (sI (sI (sI (sI (sI (sI (sI (sI (tI (tI (sI (tI (sI (tI (sI (sI (sI (sI (sI (sI σ 2 n_1) 4 n_2) 5 n_3) 6 n_4) 23 n_5) 29 n_6) 27 f_7) 32 n_8) 30 f_9) 31 n_10) 24 f_11) 26 f_12) 40 n_13) 2 n_17) 2 i_51) 2 n_52) 4 n_53) 5 n_54) 6 n_55) 23 n_56) 29 n_57) 27 f_58) 32 n_59) 30 f_60) 31 n_61) 24 f_62) 26 f_63) 40 n_64) 29 n_76) 27 f_77)) := hD
                replace hw : n_76.toInt = (n_57).toInt + 1 ∧ f_77 = upd (f_58) (n_57).toInt.toNat (13 : Int32) := hw
                obtain ⟨hcd1, hcd2⟩ := hw
                have hP : va_P D vwCl (mwd y ad zw (sI (tI (tI (sI (tI (sI (tI (sI (sI (sI (sI (sI (sI σ 2 n_52) 4 n_53) 5 n_54) 6 n_55) 23 n_56) 29 n_76) 27 f_77) 32 n_59) 30 f_60) 31 n_61) 24 f_62) 26 f_63) 40 n_64)) H := hP
                have hD : va_D A (mwd y ad zw (sI (tI (tI (sI (tI (sI (tI (sI (sI (sI (sI (sI (sI σ 2 n_52) 4 n_53) 5 n_54) 6 n_55) 23 n_56) 29 n_76) 27 f_77) 32 n_59) 30 f_60) 31 n_61) 24 f_62) 26 f_63) 40 n_64)) := hD
                exact x_vretW (u := (n_52, n_53, n_54, n_55, n_56, n_76, f_77, n_59, f_60, n_61, f_62, f_63, n_64)) hx hb hr hQ (by (try dsimp only); exact ⟨⟨by omega, by omega, by omega, by omega, by omega, by omega, by omega, hhb, by omega, by omega, (ht11.trans hp11), fun h9 => absurd h9 (by omega)⟩, hg_65⟩) hP hD hK hS dX12_fact_87 hlocks
              · have kc_75 : r_16.toInt = 62 := by have h9 := c_75; simp only [ge_iff_le, gt_iff_lt, x_lt, x_le, x_eq, ne_eq, Int32.not_lt, Int32.not_le] at h9; simp only [Int32.reduceToInt] at h9; omega
                refine lv_bipush (v := 12) hx hb dX12_fact_77 (by decide) ?_
                refine lv_goto (tgt := 84) hx hb dX12_fact_79 (by decide) ?_
                refine x_callvW (va_runV (As := [.int 12]) (rest := []) ⟨hx, hb, hml, hown, hts⟩ (q_code l D y H.size ad zw (sI (tI (tI (sI (tI (sI (tI (sI (sI (sI (sI (sI (sI (sI (sI (sI (tI (tI (sI (tI (sI (tI (sI (sI (sI (sI (sI (sI σ 2 n_1) 4 n_2) 5 n_3) 6 n_4) 23 n_5) 29 n_6) 27 f_7) 32 n_8) 30 f_9) 31 n_10) 24 f_11) 26 f_12) 40 n_13) 2 n_17) 2 i_51) 2 n_52) 4 n_53) 5 n_54) 6 n_55) 23 n_56) 29 n_57) 27 f_58) 32 n_59) 30 f_60) 31 n_61) 24 f_62) 26 f_63) 40 n_64) 12 (show 0 ≤ (n_57).toInt from by first | omega | decide) (show (n_57).toInt < 1200 from by first | omega | decide)) (cwV 1 hts g_q_fact_2 rfl rfl rfl (by decide +kernel) ⟨Nat.le_of_ble_eq_true rfl, Nat.le_of_ble_eq_true rfl⟩) (x_preV (q := (RX12, TX12, 85)) hK hP hD (ci := 11) (q0 := 0) rfl mwd_o0) rfl rfl hl.1 rfl (lv_room (Nat.le_of_ble_eq_true rfl)) dX12_fact_84 ⟨Nat.le_of_ble_eq_true rfl, Nat.le_of_ble_eq_true rfl⟩) hP hD hS hA (fun u H locs hw hP hD hS => ?_)
                obtain ⟨n_78, f_79⟩ := u
                try dsimp only at hw
                have hP : va_P D vwCl (mwd y ad zw (tI (sI (sI (tI (tI (sI (tI (sI (tI (sI (sI (sI (sI (sI (sI (sI (sI (sI (tI (tI (sI (tI (sI (tI (sI (sI (sI (sI (sI (sI σ 2 n_1) 4 n_2) 5 n_3) 6 n_4) 23 n_5) 29 n_6) 27 f_7) 32 n_8) 30 f_9) 31 n_10) 24 f_11) 26 f_12) 40 n_13) 2 n_17) 2 i_51) 2 n_52) 4 n_53) 5 n_54) 6 n_55) 23 n_56) 29 n_57) 27 f_58) 32 n_59) 30 f_60) 31 n_61) 24 f_62) 26 f_63) 40 n_64) 29 n_78) 27 f_79)) H := hP
                have hD : va_D A (mwd y ad zw (tI (sI (sI (tI (tI (sI (tI (sI (tI (sI (sI (sI (sI (sI (sI (sI (sI (sI (tI (tI (sI (tI (sI (tI (sI (sI (sI (sI (sI (sI σ 2 n_1) 4 n_2) 5 n_3) 6 n_4) 23 n_5) 29 n_6) 27 f_7) 32 n_8) 30 f_9) 31 n_10) 24 f_11) 26 f_12) 40 n_13) 2 n_17) 2 i_51) 2 n_52) 4 n_53) 5 n_54) 6 n_55) 23 n_56) 29 n_57) 27 f_58) 32 n_59) 30 f_60) 31 n_61) 24 f_62) 26 f_63) 40 n_64) 29 n_78) 27 f_79)) := hD
                replace hw : n_78.toInt = (n_57).toInt + 1 ∧ f_79 = upd (f_58) (n_57).toInt.toNat (12 : Int32) := hw
                obtain ⟨hcd1, hcd2⟩ := hw
                have hP : va_P D vwCl (mwd y ad zw (sI (tI (tI (sI (tI (sI (tI (sI (sI (sI (sI (sI (sI σ 2 n_52) 4 n_53) 5 n_54) 6 n_55) 23 n_56) 29 n_78) 27 f_79) 32 n_59) 30 f_60) 31 n_61) 24 f_62) 26 f_63) 40 n_64)) H := hP
                have hD : va_D A (mwd y ad zw (sI (tI (tI (sI (tI (sI (tI (sI (sI (sI (sI (sI (sI σ 2 n_52) 4 n_53) 5 n_54) 6 n_55) 23 n_56) 29 n_78) 27 f_79) 32 n_59) 30 f_60) 31 n_61) 24 f_62) 26 f_63) 40 n_64)) := hD
                exact x_vretW (u := (n_52, n_53, n_54, n_55, n_56, n_78, f_79, n_59, f_60, n_61, f_62, f_63, n_64)) hx hb hr hQ (by (try dsimp only); exact ⟨⟨by omega, by omega, by omega, by omega, by omega, by omega, by omega, hhb, by omega, by omega, (ht11.trans hp11), fun h9 => absurd h9 (by omega)⟩, hg_65⟩) hP hD hK hS dX12_fact_87 hlocks
            · have kc_74 : r_16.toInt = 60 := by have h9 := c_74; simp only [ge_iff_le, gt_iff_lt, x_lt, x_le, x_eq, ne_eq, Int32.not_lt, Int32.not_le] at h9; simp only [Int32.reduceToInt] at h9; omega
              refine lv_bipush (v := 11) hx hb dX12_fact_66 (by decide) ?_
              refine lv_goto (tgt := 84) hx hb dX12_fact_68 (by decide) ?_
              refine x_callvW (va_runV (As := [.int 11]) (rest := []) ⟨hx, hb, hml, hown, hts⟩ (q_code l D y H.size ad zw (sI (tI (tI (sI (tI (sI (tI (sI (sI (sI (sI (sI (sI (sI (sI (sI (tI (tI (sI (tI (sI (tI (sI (sI (sI (sI (sI (sI σ 2 n_1) 4 n_2) 5 n_3) 6 n_4) 23 n_5) 29 n_6) 27 f_7) 32 n_8) 30 f_9) 31 n_10) 24 f_11) 26 f_12) 40 n_13) 2 n_17) 2 i_51) 2 n_52) 4 n_53) 5 n_54) 6 n_55) 23 n_56) 29 n_57) 27 f_58) 32 n_59) 30 f_60) 31 n_61) 24 f_62) 26 f_63) 40 n_64) 11 (show 0 ≤ (n_57).toInt from by first | omega | decide) (show (n_57).toInt < 1200 from by first | omega | decide)) (cwV 1 hts g_q_fact_2 rfl rfl rfl (by decide +kernel) ⟨Nat.le_of_ble_eq_true rfl, Nat.le_of_ble_eq_true rfl⟩) (x_preV (q := (RX12, TX12, 85)) hK hP hD (ci := 11) (q0 := 0) rfl mwd_o0) rfl rfl hl.1 rfl (lv_room (Nat.le_of_ble_eq_true rfl)) dX12_fact_84 ⟨Nat.le_of_ble_eq_true rfl, Nat.le_of_ble_eq_true rfl⟩) hP hD hS hA (fun u H locs hw hP hD hS => ?_)
              obtain ⟨n_80, f_81⟩ := u
              try dsimp only at hw
              have hP : va_P D vwCl (mwd y ad zw (tI (sI (sI (tI (tI (sI (tI (sI (tI (sI (sI (sI (sI (sI (sI (sI (sI (sI (tI (tI (sI (tI (sI (tI (sI (sI (sI (sI (sI (sI σ 2 n_1) 4 n_2) 5 n_3) 6 n_4) 23 n_5) 29 n_6) 27 f_7) 32 n_8) 30 f_9) 31 n_10) 24 f_11) 26 f_12) 40 n_13) 2 n_17) 2 i_51) 2 n_52) 4 n_53) 5 n_54) 6 n_55) 23 n_56) 29 n_57) 27 f_58) 32 n_59) 30 f_60) 31 n_61) 24 f_62) 26 f_63) 40 n_64) 29 n_80) 27 f_81)) H := hP
              have hD : va_D A (mwd y ad zw (tI (sI (sI (tI (tI (sI (tI (sI (tI (sI (sI (sI (sI (sI (sI (sI (sI (sI (tI (tI (sI (tI (sI (tI (sI (sI (sI (sI (sI (sI σ 2 n_1) 4 n_2) 5 n_3) 6 n_4) 23 n_5) 29 n_6) 27 f_7) 32 n_8) 30 f_9) 31 n_10) 24 f_11) 26 f_12) 40 n_13) 2 n_17) 2 i_51) 2 n_52) 4 n_53) 5 n_54) 6 n_55) 23 n_56) 29 n_57) 27 f_58) 32 n_59) 30 f_60) 31 n_61) 24 f_62) 26 f_63) 40 n_64) 29 n_80) 27 f_81)) := hD
              replace hw : n_80.toInt = (n_57).toInt + 1 ∧ f_81 = upd (f_58) (n_57).toInt.toNat (11 : Int32) := hw
              obtain ⟨hcd1, hcd2⟩ := hw
              have hP : va_P D vwCl (mwd y ad zw (sI (tI (tI (sI (tI (sI (tI (sI (sI (sI (sI (sI (sI σ 2 n_52) 4 n_53) 5 n_54) 6 n_55) 23 n_56) 29 n_80) 27 f_81) 32 n_59) 30 f_60) 31 n_61) 24 f_62) 26 f_63) 40 n_64)) H := hP
              have hD : va_D A (mwd y ad zw (sI (tI (tI (sI (tI (sI (tI (sI (sI (sI (sI (sI (sI σ 2 n_52) 4 n_53) 5 n_54) 6 n_55) 23 n_56) 29 n_80) 27 f_81) 32 n_59) 30 f_60) 31 n_61) 24 f_62) 26 f_63) 40 n_64)) := hD
              exact x_vretW (u := (n_52, n_53, n_54, n_55, n_56, n_80, f_81, n_59, f_60, n_61, f_62, f_63, n_64)) hx hb hr hQ (by (try dsimp only); exact ⟨⟨by omega, by omega, by omega, by omega, by omega, by omega, by omega, hhb, by omega, by omega, (ht11.trans hp11), fun h9 => absurd h9 (by omega)⟩, hg_65⟩) hP hD hK hS dX12_fact_87 hlocks
        · have kc_50 : r_16.toInt ≠ 62 := by have h9 := c_50; simp only [ge_iff_le, gt_iff_lt, x_lt, x_le, x_eq, ne_eq, Int32.not_lt, Int32.not_le] at h9; simp only [Int32.reduceToInt] at h9; omega
          refine lv_iload_n hx hb dX12_fact_29 rfl (lv_at hl 0 rfl) ?_
          refine lv_bipush (v := 61) hx hb dX12_fact_30 (by decide) ?_
          refine lv_icmp_eq (tgt := 45) hx hb dX12_fact_32 (by decide) (fun c_82 => ?_) (fun c_82 => ?_)
          · have kc_82 : r_16.toInt = 61 := by have h9 := c_82; simp only [ge_iff_le, gt_iff_lt, x_lt, x_le, x_eq, ne_eq, Int32.not_lt, Int32.not_le] at h9; simp only [Int32.reduceToInt] at h9; omega
            refine lv_aload_n hx hb dX12_fact_45 rfl (lv_at hl 1 rfl) ?_
            refine lv_dup hx hb dX12_fact_46 rfl ?_
            refine va_get (D := D) (ci := 11) (v := .int n_17) (C := RX12) (T := TX12) (N := 85) hx hb hts inX12 hown hK hP 0 mwd_o0 rfl 2 (by decide) fl197 (fun _ h9 => h9) rfl dX12_fact_47 ?_
            refine lv_iconst (v := 1) hx hb dX12_fact_50 (by decide) ?_
            refine lv_iadd hx hb dX12_fact_51 ?_
            refine lv_topi (fun i_83 ei_83 => ?_)
            have vi_83 : i_83.toInt = n_17.toInt + 1 := by have h9 := x_add ei_83 (by omega) (by omega); omega
            refine va_put (D := D) (ci := 11) (v := .int i_83) (ty := .int) (C := RX12) (T := TX12) (N := 85) hx hb hts inX12 tyX12 tyX12_ok nmX12 hown hK hP hD hS 0 mwd_o0 rfl 2 (by decide) fl197 (fun _ h9 => h9) rfl (by decide +kernel) rfl rfl (Nat.le_of_ble_eq_true rfl) dX12_fact_52 (fun H locs hP hD hS => ?_)
            have hP : va_P D vwCl (mwd y ad zw (sI (sI (sI (tI (tI (sI (tI (sI (tI (sI (sI (sI (sI (sI (sI σ 2 n_1) 4 n_2) 5 n_3) 6 n_4) 23 n_5) 29 n_6) 27 f_7) 32 n_8) 30 f_9) 31 n_10) 24 f_11) 26 f_12) 40 n_13) 2 n_17) 2 i_83)) H := x_trP hP mwd_p0_2
            have hD : va_D A (mwd y ad zw (sI (sI (sI (tI (tI (sI (tI (sI (tI (sI (sI (sI (sI (sI (sI σ 2 n_1) 4 n_2) 5 n_3) 6 n_4) 23 n_5) 29 n_6) 27 f_7) 32 n_8) 30 f_9) 31 n_10) 24 f_11) 26 f_12) 40 n_13) 2 n_17) 2 i_83)) := x_trD hD mwd_p0_2
            refine lv_aload_n hx hb dX12_fact_55 rfl (lv_at hl 1 rfl) ?_
            have hlo2 : ∀ k : Nat, k < n_10.toInt.toNat → ¬ (1 ≤ (f_9 k).toInt ∧ (f_9 k).toInt ≤ 4) := fun k h9 => by rw [hP1.2.2.2.1 k (by omega)]; exact hlo k (by omega)
            have hoc2 : (oc f_9 n_10.toInt.toNat : Int) ≤ n_8.toInt := by rw [show n_10.toInt.toNat = (σ.1 31).toInt.toNat by omega, oc_congr hP1.2.2.2.1]; omega
            have hoc3 : (oc f_9 n_10.toInt.toNat : Int) = (oc (σ.2.2.1 30) ((σ.1 31).toInt.toNat) : Int) := by rw [show n_10.toInt.toNat = (σ.1 31).toInt.toNat by omega, oc_congr hP1.2.2.2.1]
            refine x_callvW (va_runV (As := []) (rest := []) ⟨hx, hb, hml, hown, hts⟩ (q_sums l D y H.size ad zw (sI (sI (sI (tI (tI (sI (tI (sI (tI (sI (sI (sI (sI (sI (sI σ 2 n_1) 4 n_2) 5 n_3) 6 n_4) 23 n_5) 29 n_6) 27 f_7) 32 n_8) 30 f_9) 31 n_10) 24 f_11) 26 f_12) 40 n_13) 2 n_17) 2 i_83) (show 0 ≤ (i_83).toInt from by first | omega | decide) (show (i_83).toInt ≤ ((σ.1 3)).toInt from by first | omega | decide) (show ((σ.1 3)).toInt ≤ 700 from by first | omega | decide) (show (n_3).toInt = 0 from by first | omega | decide) (show 0 ≤ ((σ.1 33)).toInt from by first | omega | decide) (show ((σ.1 33)).toInt ≤ 24 from by first | omega | decide) (show 0 ≤ (n_8).toInt from by first | omega | decide) (show (n_8).toInt ≤ 8 from by first | omega | decide) (show 0 ≤ (n_10).toInt from by first | omega | decide) (show 0 ≤ (n_6).toInt from by first | omega | decide) (show (n_6).toInt + (n_10).toInt ≤ (i_83).toInt + 20 from by first | omega | decide) (show 0 ≤ (f_11 4).toInt from by first | omega | decide) (show (f_11 4).toInt ≤ (i_83).toInt + 20 from by first | omega | decide) hlo2 hoc2 hB35 hg_14) (cwV 0 hts g_q_fact_0 rfl rfl rfl (by decide +kernel) ⟨Nat.le_of_ble_eq_true rfl, Nat.le_of_ble_eq_true rfl⟩) (x_preV (q := (RX12, TX12, 85)) hK hP hD (ci := 11) (q0 := 0) rfl mwd_o0) rfl rfl hl.1 rfl (lv_room (Nat.le_of_ble_eq_true rfl)) dX12_fact_56 ⟨Nat.le_of_ble_eq_true rfl, Nat.le_of_ble_eq_true rfl⟩) hP hD hS hA (fun u H locs hw hP hD hS => ?_)
            obtain ⟨n_84, n_85, n_86, n_87, n_88, n_89, f_90, n_91, f_92, n_93, f_94, f_95, n_96⟩ := u
            try dsimp only at hw
            have hP : va_P D vwCl (mwd y ad zw (sI (tI (tI (sI (tI (sI (tI (sI (sI (sI (sI (sI (sI (sI (sI (sI (tI (tI (sI (tI (sI (tI (sI (sI (sI (sI (sI (sI σ 2 n_1) 4 n_2) 5 n_3) 6 n_4) 23 n_5) 29 n_6) 27 f_7) 32 n_8) 30 f_9) 31 n_10) 24 f_11) 26 f_12) 40 n_13) 2 n_17) 2 i_83) 2 n_84) 4 n_85) 5 n_86) 6 n_87) 23 n_88) 29 n_89) 27 f_90) 32 n_91) 30 f_92) 31 n_93) 24 f_94) 26 f_95) 40 n_96)) H := hP
            have hD : va_D A (mwd y ad zw (sI (tI (tI (sI (tI (sI (tI (sI (sI (sI (sI (sI (sI (sI (sI (sI (tI (tI (sI (tI (sI (tI (sI (sI (sI (sI (sI (sI σ 2 n_1) 4 n_2) 5 n_3) 6 n_4) 23 n_5) 29 n_6) 27 f_7) 32 n_8) 30 f_9) 31 n_10) 24 f_11) 26 f_12) 40 n_13) 2 n_17) 2 i_83) 2 n_84) 4 n_85) 5 n_86) 6 n_87) 23 n_88) 29 n_89) 27 f_90) 32 n_91) 30 f_92) 31 n_93) 24 f_94) 26 f_95) 40 n_96)) := hD
            replace hw : ((i_83).toInt ≤ n_84.toInt ∧ n_84.toInt ≤ ((σ.1 3)).toInt ∧ 0 ≤ n_91.toInt ∧ n_91.toInt ≤ 8 ∧ 0 ≤ n_93.toInt ∧ (n_6).toInt ≤ n_89.toInt ∧ n_89.toInt + n_93.toInt - n_84.toInt ≤ (n_6).toInt + (n_10).toInt - (i_83).toInt + 1 ∧ (∀ k : Nat, k ≠ 4 → f_94 k = f_11 k) ∧ (f_11 4).toInt ≤ (f_94 4).toInt ∧ (f_94 4).toInt - n_84.toInt ≤ (f_11 4).toInt - (i_83).toInt + 1 ∧ n_96 = (n_13) ∧ (n_86.toInt = 0 → (i_83).toInt + 1 ≤ n_84.toInt ∧ n_89.toInt + n_93.toInt - n_84.toInt ≤ (n_6).toInt + (n_10).toInt - (i_83).toInt ∧ (f_94 4).toInt - n_84.toInt ≤ (f_11 4).toInt - (i_83).toInt ∧ n_93.toInt = (n_10).toInt ∧ ES (f_7) f_90 (f_9) f_92 ((n_6).toInt.toNat) (n_89.toInt.toNat) ((n_10).toInt.toNat) (n_93.toInt.toNat) 1 (1000 + (f_94 4).toInt) n_91.toInt ((n_8).toInt - (oc (f_9) (n_10).toInt.toNat : Int)))) ∧ bI f_95 0 9999 := hw
            obtain ⟨hw, hg_97⟩ := hw
            obtain ⟨ht1, ht2, ht3, ht4, ht5, ht6, ht7, ht8, ht9, ht10, ht11, hti⟩ := hw
            have hhb : ∀ k : Nat, k ≠ 4 → f_94 k = σ.2.2.1 24 k := fun k h9 => (ht8 k h9).trans (hp8 k h9)
            rcases Classical.em (n_86.toInt = 0) with hbz2 | hbz2
            · obtain ⟨hu1, hu2, hu3, hu4, hu5⟩ := hti hbz2
              clear hti
              obtain ⟨hP2, hO2⟩ := PC_ES hu5 (by omega)
              clear hu5
              rw [show n_10.toInt.toNat = (σ.1 31).toInt.toNat by omega] at hP2
              have hP3 := PC_seq hP1 hP2 (by omega)
              refine lv_aload_n hx hb dX12_fact_59 rfl (lv_at hl 1 rfl) ?_
              refine lv_iload_n hx hb dX12_fact_60 rfl (lv_at hl 0 rfl) ?_
              refine lv_bipush (v := 60) hx hb dX12_fact_61 (by decide) ?_
              refine lv_icmp_ne (tgt := 71) hx hb dX12_fact_63 (by decide) (fun c_98 => ?_) (fun c_98 => ?_)
              · have kc_98 : r_16.toInt ≠ 60 := by have h9 := c_98; simp only [ge_iff_le, gt_iff_lt, x_lt, x_le, x_eq, ne_eq, Int32.not_lt, Int32.not_le] at h9; simp only [Int32.reduceToInt] at h9; omega
                refine lv_iload_n hx hb dX12_fact_71 rfl (lv_at hl 0 rfl) ?_
                refine lv_bipush (v := 62) hx hb dX12_fact_72 (by decide) ?_
                refine lv_icmp_ne (tgt := 82) hx hb dX12_fact_74 (by decide) (fun c_99 => ?_) (fun c_99 => ?_)
                · have kc_99 : r_16.toInt ≠ 62 := by have h9 := c_99; simp only [ge_iff_le, gt_iff_lt, x_lt, x_le, x_eq, ne_eq, Int32.not_lt, Int32.not_le] at h9; simp only [Int32.reduceToInt] at h9; omega
                  refine lv_bipush (v := 13) hx hb dX12_fact_82 (by decide) ?_
                  refine x_callvW (va_runV (As := [.int 13]) (rest := []) ⟨hx, hb, hml, hown, hts⟩ (q_code l D y H.size ad zw (sI (tI (tI (sI (tI (sI (tI (sI (sI (sI (sI (sI (sI (sI (sI (sI (tI (tI (sI (tI (sI (tI (sI (sI (sI (sI (sI (sI σ 2 n_1) 4 n_2) 5 n_3) 6 n_4) 23 n_5) 29 n_6) 27 f_7) 32 n_8) 30 f_9) 31 n_10) 24 f_11) 26 f_12) 40 n_13) 2 n_17) 2 i_83) 2 n_84) 4 n_85) 5 n_86) 6 n_87) 23 n_88) 29 n_89) 27 f_90) 32 n_91) 30 f_92) 31 n_93) 24 f_94) 26 f_95) 40 n_96) 13 (show 0 ≤ (n_89).toInt from by first | omega | decide) (show (n_89).toInt < 1200 from by first | omega | decide)) (cwV 1 hts g_q_fact_2 rfl rfl rfl (by decide +kernel) ⟨Nat.le_of_ble_eq_true rfl, Nat.le_of_ble_eq_true rfl⟩) (x_preV (q := (RX12, TX12, 85)) hK hP hD (ci := 11) (q0 := 0) rfl mwd_o0) rfl rfl hl.1 rfl (lv_room (Nat.le_of_ble_eq_true rfl)) dX12_fact_84 ⟨Nat.le_of_ble_eq_true rfl, Nat.le_of_ble_eq_true rfl⟩) hP hD hS hA (fun u H locs hw hP hD hS => ?_)
                  obtain ⟨n_100, f_101⟩ := u
                  try dsimp only at hw
                  have hP : va_P D vwCl (mwd y ad zw (tI (sI (sI (tI (tI (sI (tI (sI (tI (sI (sI (sI (sI (sI (sI (sI (sI (sI (tI (tI (sI (tI (sI (tI (sI (sI (sI (sI (sI (sI σ 2 n_1) 4 n_2) 5 n_3) 6 n_4) 23 n_5) 29 n_6) 27 f_7) 32 n_8) 30 f_9) 31 n_10) 24 f_11) 26 f_12) 40 n_13) 2 n_17) 2 i_83) 2 n_84) 4 n_85) 5 n_86) 6 n_87) 23 n_88) 29 n_89) 27 f_90) 32 n_91) 30 f_92) 31 n_93) 24 f_94) 26 f_95) 40 n_96) 29 n_100) 27 f_101)) H := hP
                  have hD : va_D A (mwd y ad zw (tI (sI (sI (tI (tI (sI (tI (sI (tI (sI (sI (sI (sI (sI (sI (sI (sI (sI (tI (tI (sI (tI (sI (tI (sI (sI (sI (sI (sI (sI σ 2 n_1) 4 n_2) 5 n_3) 6 n_4) 23 n_5) 29 n_6) 27 f_7) 32 n_8) 30 f_9) 31 n_10) 24 f_11) 26 f_12) 40 n_13) 2 n_17) 2 i_83) 2 n_84) 4 n_85) 5 n_86) 6 n_87) 23 n_88) 29 n_89) 27 f_90) 32 n_91) 30 f_92) 31 n_93) 24 f_94) 26 f_95) 40 n_96) 29 n_100) 27 f_101)) := hD
                  replace hw : n_100.toInt = (n_89).toInt + 1 ∧ f_101 = upd (f_90) (n_89).toInt.toNat (13 : Int32) := hw
                  obtain ⟨hcd1, hcd2⟩ := hw
                  have hP9 : PC (σ.2.2.1 27) f_101 (σ.2.2.1 30) f_92 ((σ.1 29).toInt.toNat) (n_100.toInt.toNat) ((σ.1 31).toInt.toNat) (1000 + (f_94 4).toInt) [false] := by rw [hcd2, show n_100.toInt.toNat = n_89.toInt.toNat + 1 by omega]; exact PC_cmp hP3 ⟨by decide, by decide⟩ (by have h7 : (13 : Int32).toInt = 13 := rfl; omega)
                  have hP : va_P D vwCl (mwd y ad zw (sI (tI (tI (sI (tI (sI (tI (sI (sI (sI (sI (sI (sI σ 2 n_84) 4 n_85) 5 n_86) 6 n_87) 23 n_88) 29 n_100) 27 f_101) 32 n_91) 30 f_92) 31 n_93) 24 f_94) 26 f_95) 40 n_96)) H := hP
                  have hD : va_D A (mwd y ad zw (sI (tI (tI (sI (tI (sI (tI (sI (sI (sI (sI (sI (sI σ 2 n_84) 4 n_85) 5 n_86) 6 n_87) 23 n_88) 29 n_100) 27 f_101) 32 n_91) 30 f_92) 31 n_93) 24 f_94) 26 f_95) 40 n_96)) := hD
                  exact x_vretW (u := (n_84, n_85, n_86, n_87, n_88, n_100, f_101, n_91, f_92, n_93, f_94, f_95, n_96)) hx hb hr hQ (by (try dsimp only); exact ⟨⟨by omega, by omega, by omega, by omega, by omega, by omega, by omega, hhb, by omega, by omega, (ht11.trans hp11), fun h9 => ⟨by omega, by omega, by omega, by omega, by omega, hP9⟩⟩, hg_97⟩) hP hD hK hS dX12_fact_87 hlocks
                · have kc_99 : r_16.toInt = 62 := by have h9 := c_99; simp only [ge_iff_le, gt_iff_lt, x_lt, x_le, x_eq, ne_eq, Int32.not_lt, Int32.not_le] at h9; simp only [Int32.reduceToInt] at h9; omega
                  refine lv_bipush (v := 12) hx hb dX12_fact_77 (by decide) ?_
                  refine lv_goto (tgt := 84) hx hb dX12_fact_79 (by decide) ?_
                  refine x_callvW (va_runV (As := [.int 12]) (rest := []) ⟨hx, hb, hml, hown, hts⟩ (q_code l D y H.size ad zw (sI (tI (tI (sI (tI (sI (tI (sI (sI (sI (sI (sI (sI (sI (sI (sI (tI (tI (sI (tI (sI (tI (sI (sI (sI (sI (sI (sI σ 2 n_1) 4 n_2) 5 n_3) 6 n_4) 23 n_5) 29 n_6) 27 f_7) 32 n_8) 30 f_9) 31 n_10) 24 f_11) 26 f_12) 40 n_13) 2 n_17) 2 i_83) 2 n_84) 4 n_85) 5 n_86) 6 n_87) 23 n_88) 29 n_89) 27 f_90) 32 n_91) 30 f_92) 31 n_93) 24 f_94) 26 f_95) 40 n_96) 12 (show 0 ≤ (n_89).toInt from by first | omega | decide) (show (n_89).toInt < 1200 from by first | omega | decide)) (cwV 1 hts g_q_fact_2 rfl rfl rfl (by decide +kernel) ⟨Nat.le_of_ble_eq_true rfl, Nat.le_of_ble_eq_true rfl⟩) (x_preV (q := (RX12, TX12, 85)) hK hP hD (ci := 11) (q0 := 0) rfl mwd_o0) rfl rfl hl.1 rfl (lv_room (Nat.le_of_ble_eq_true rfl)) dX12_fact_84 ⟨Nat.le_of_ble_eq_true rfl, Nat.le_of_ble_eq_true rfl⟩) hP hD hS hA (fun u H locs hw hP hD hS => ?_)
                  obtain ⟨n_102, f_103⟩ := u
                  try dsimp only at hw
                  have hP : va_P D vwCl (mwd y ad zw (tI (sI (sI (tI (tI (sI (tI (sI (tI (sI (sI (sI (sI (sI (sI (sI (sI (sI (tI (tI (sI (tI (sI (tI (sI (sI (sI (sI (sI (sI σ 2 n_1) 4 n_2) 5 n_3) 6 n_4) 23 n_5) 29 n_6) 27 f_7) 32 n_8) 30 f_9) 31 n_10) 24 f_11) 26 f_12) 40 n_13) 2 n_17) 2 i_83) 2 n_84) 4 n_85) 5 n_86) 6 n_87) 23 n_88) 29 n_89) 27 f_90) 32 n_91) 30 f_92) 31 n_93) 24 f_94) 26 f_95) 40 n_96) 29 n_102) 27 f_103)) H := hP
                  have hD : va_D A (mwd y ad zw (tI (sI (sI (tI (tI (sI (tI (sI (tI (sI (sI (sI (sI (sI (sI (sI (sI (sI (tI (tI (sI (tI (sI (tI (sI (sI (sI (sI (sI (sI σ 2 n_1) 4 n_2) 5 n_3) 6 n_4) 23 n_5) 29 n_6) 27 f_7) 32 n_8) 30 f_9) 31 n_10) 24 f_11) 26 f_12) 40 n_13) 2 n_17) 2 i_83) 2 n_84) 4 n_85) 5 n_86) 6 n_87) 23 n_88) 29 n_89) 27 f_90) 32 n_91) 30 f_92) 31 n_93) 24 f_94) 26 f_95) 40 n_96) 29 n_102) 27 f_103)) := hD
                  replace hw : n_102.toInt = (n_89).toInt + 1 ∧ f_103 = upd (f_90) (n_89).toInt.toNat (12 : Int32) := hw
                  obtain ⟨hcd1, hcd2⟩ := hw
                  have hP9 : PC (σ.2.2.1 27) f_103 (σ.2.2.1 30) f_92 ((σ.1 29).toInt.toNat) (n_102.toInt.toNat) ((σ.1 31).toInt.toNat) (1000 + (f_94 4).toInt) [false] := by rw [hcd2, show n_102.toInt.toNat = n_89.toInt.toNat + 1 by omega]; exact PC_cmp hP3 ⟨by decide, by decide⟩ (by have h7 : (12 : Int32).toInt = 12 := rfl; omega)
                  have hP : va_P D vwCl (mwd y ad zw (sI (tI (tI (sI (tI (sI (tI (sI (sI (sI (sI (sI (sI σ 2 n_84) 4 n_85) 5 n_86) 6 n_87) 23 n_88) 29 n_102) 27 f_103) 32 n_91) 30 f_92) 31 n_93) 24 f_94) 26 f_95) 40 n_96)) H := hP
                  have hD : va_D A (mwd y ad zw (sI (tI (tI (sI (tI (sI (tI (sI (sI (sI (sI (sI (sI σ 2 n_84) 4 n_85) 5 n_86) 6 n_87) 23 n_88) 29 n_102) 27 f_103) 32 n_91) 30 f_92) 31 n_93) 24 f_94) 26 f_95) 40 n_96)) := hD
                  exact x_vretW (u := (n_84, n_85, n_86, n_87, n_88, n_102, f_103, n_91, f_92, n_93, f_94, f_95, n_96)) hx hb hr hQ (by (try dsimp only); exact ⟨⟨by omega, by omega, by omega, by omega, by omega, by omega, by omega, hhb, by omega, by omega, (ht11.trans hp11), fun h9 => ⟨by omega, by omega, by omega, by omega, by omega, hP9⟩⟩, hg_97⟩) hP hD hK hS dX12_fact_87 hlocks
              · have kc_98 : r_16.toInt = 60 := by have h9 := c_98; simp only [ge_iff_le, gt_iff_lt, x_lt, x_le, x_eq, ne_eq, Int32.not_lt, Int32.not_le] at h9; simp only [Int32.reduceToInt] at h9; omega
                refine lv_bipush (v := 11) hx hb dX12_fact_66 (by decide) ?_
                refine lv_goto (tgt := 84) hx hb dX12_fact_68 (by decide) ?_
                refine x_callvW (va_runV (As := [.int 11]) (rest := []) ⟨hx, hb, hml, hown, hts⟩ (q_code l D y H.size ad zw (sI (tI (tI (sI (tI (sI (tI (sI (sI (sI (sI (sI (sI (sI (sI (sI (tI (tI (sI (tI (sI (tI (sI (sI (sI (sI (sI (sI σ 2 n_1) 4 n_2) 5 n_3) 6 n_4) 23 n_5) 29 n_6) 27 f_7) 32 n_8) 30 f_9) 31 n_10) 24 f_11) 26 f_12) 40 n_13) 2 n_17) 2 i_83) 2 n_84) 4 n_85) 5 n_86) 6 n_87) 23 n_88) 29 n_89) 27 f_90) 32 n_91) 30 f_92) 31 n_93) 24 f_94) 26 f_95) 40 n_96) 11 (show 0 ≤ (n_89).toInt from by first | omega | decide) (show (n_89).toInt < 1200 from by first | omega | decide)) (cwV 1 hts g_q_fact_2 rfl rfl rfl (by decide +kernel) ⟨Nat.le_of_ble_eq_true rfl, Nat.le_of_ble_eq_true rfl⟩) (x_preV (q := (RX12, TX12, 85)) hK hP hD (ci := 11) (q0 := 0) rfl mwd_o0) rfl rfl hl.1 rfl (lv_room (Nat.le_of_ble_eq_true rfl)) dX12_fact_84 ⟨Nat.le_of_ble_eq_true rfl, Nat.le_of_ble_eq_true rfl⟩) hP hD hS hA (fun u H locs hw hP hD hS => ?_)
                obtain ⟨n_104, f_105⟩ := u
                try dsimp only at hw
                have hP : va_P D vwCl (mwd y ad zw (tI (sI (sI (tI (tI (sI (tI (sI (tI (sI (sI (sI (sI (sI (sI (sI (sI (sI (tI (tI (sI (tI (sI (tI (sI (sI (sI (sI (sI (sI σ 2 n_1) 4 n_2) 5 n_3) 6 n_4) 23 n_5) 29 n_6) 27 f_7) 32 n_8) 30 f_9) 31 n_10) 24 f_11) 26 f_12) 40 n_13) 2 n_17) 2 i_83) 2 n_84) 4 n_85) 5 n_86) 6 n_87) 23 n_88) 29 n_89) 27 f_90) 32 n_91) 30 f_92) 31 n_93) 24 f_94) 26 f_95) 40 n_96) 29 n_104) 27 f_105)) H := hP
                have hD : va_D A (mwd y ad zw (tI (sI (sI (tI (tI (sI (tI (sI (tI (sI (sI (sI (sI (sI (sI (sI (sI (sI (tI (tI (sI (tI (sI (tI (sI (sI (sI (sI (sI (sI σ 2 n_1) 4 n_2) 5 n_3) 6 n_4) 23 n_5) 29 n_6) 27 f_7) 32 n_8) 30 f_9) 31 n_10) 24 f_11) 26 f_12) 40 n_13) 2 n_17) 2 i_83) 2 n_84) 4 n_85) 5 n_86) 6 n_87) 23 n_88) 29 n_89) 27 f_90) 32 n_91) 30 f_92) 31 n_93) 24 f_94) 26 f_95) 40 n_96) 29 n_104) 27 f_105)) := hD
                replace hw : n_104.toInt = (n_89).toInt + 1 ∧ f_105 = upd (f_90) (n_89).toInt.toNat (11 : Int32) := hw
                obtain ⟨hcd1, hcd2⟩ := hw
                have hP9 : PC (σ.2.2.1 27) f_105 (σ.2.2.1 30) f_92 ((σ.1 29).toInt.toNat) (n_104.toInt.toNat) ((σ.1 31).toInt.toNat) (1000 + (f_94 4).toInt) [false] := by rw [hcd2, show n_104.toInt.toNat = n_89.toInt.toNat + 1 by omega]; exact PC_cmp hP3 ⟨by decide, by decide⟩ (by have h7 : (11 : Int32).toInt = 11 := rfl; omega)
                have hP : va_P D vwCl (mwd y ad zw (sI (tI (tI (sI (tI (sI (tI (sI (sI (sI (sI (sI (sI σ 2 n_84) 4 n_85) 5 n_86) 6 n_87) 23 n_88) 29 n_104) 27 f_105) 32 n_91) 30 f_92) 31 n_93) 24 f_94) 26 f_95) 40 n_96)) H := hP
                have hD : va_D A (mwd y ad zw (sI (tI (tI (sI (tI (sI (tI (sI (sI (sI (sI (sI (sI σ 2 n_84) 4 n_85) 5 n_86) 6 n_87) 23 n_88) 29 n_104) 27 f_105) 32 n_91) 30 f_92) 31 n_93) 24 f_94) 26 f_95) 40 n_96)) := hD
                exact x_vretW (u := (n_84, n_85, n_86, n_87, n_88, n_104, f_105, n_91, f_92, n_93, f_94, f_95, n_96)) hx hb hr hQ (by (try dsimp only); exact ⟨⟨by omega, by omega, by omega, by omega, by omega, by omega, by omega, hhb, by omega, by omega, (ht11.trans hp11), fun h9 => ⟨by omega, by omega, by omega, by omega, by omega, hP9⟩⟩, hg_97⟩) hP hD hK hS dX12_fact_87 hlocks
            · clear hti
              refine lv_aload_n hx hb dX12_fact_59 rfl (lv_at hl 1 rfl) ?_
              refine lv_iload_n hx hb dX12_fact_60 rfl (lv_at hl 0 rfl) ?_
              refine lv_bipush (v := 60) hx hb dX12_fact_61 (by decide) ?_
              refine lv_icmp_ne (tgt := 71) hx hb dX12_fact_63 (by decide) (fun c_106 => ?_) (fun c_106 => ?_)
              · have kc_106 : r_16.toInt ≠ 60 := by have h9 := c_106; simp only [ge_iff_le, gt_iff_lt, x_lt, x_le, x_eq, ne_eq, Int32.not_lt, Int32.not_le] at h9; simp only [Int32.reduceToInt] at h9; omega
                refine lv_iload_n hx hb dX12_fact_71 rfl (lv_at hl 0 rfl) ?_
                refine lv_bipush (v := 62) hx hb dX12_fact_72 (by decide) ?_
                refine lv_icmp_ne (tgt := 82) hx hb dX12_fact_74 (by decide) (fun c_107 => ?_) (fun c_107 => ?_)
                · have kc_107 : r_16.toInt ≠ 62 := by have h9 := c_107; simp only [ge_iff_le, gt_iff_lt, x_lt, x_le, x_eq, ne_eq, Int32.not_lt, Int32.not_le] at h9; simp only [Int32.reduceToInt] at h9; omega
                  refine lv_bipush (v := 13) hx hb dX12_fact_82 (by decide) ?_
                  refine x_callvW (va_runV (As := [.int 13]) (rest := []) ⟨hx, hb, hml, hown, hts⟩ (q_code l D y H.size ad zw (sI (tI (tI (sI (tI (sI (tI (sI (sI (sI (sI (sI (sI (sI (sI (sI (tI (tI (sI (tI (sI (tI (sI (sI (sI (sI (sI (sI σ 2 n_1) 4 n_2) 5 n_3) 6 n_4) 23 n_5) 29 n_6) 27 f_7) 32 n_8) 30 f_9) 31 n_10) 24 f_11) 26 f_12) 40 n_13) 2 n_17) 2 i_83) 2 n_84) 4 n_85) 5 n_86) 6 n_87) 23 n_88) 29 n_89) 27 f_90) 32 n_91) 30 f_92) 31 n_93) 24 f_94) 26 f_95) 40 n_96) 13 (show 0 ≤ (n_89).toInt from by first | omega | decide) (show (n_89).toInt < 1200 from by first | omega | decide)) (cwV 1 hts g_q_fact_2 rfl rfl rfl (by decide +kernel) ⟨Nat.le_of_ble_eq_true rfl, Nat.le_of_ble_eq_true rfl⟩) (x_preV (q := (RX12, TX12, 85)) hK hP hD (ci := 11) (q0 := 0) rfl mwd_o0) rfl rfl hl.1 rfl (lv_room (Nat.le_of_ble_eq_true rfl)) dX12_fact_84 ⟨Nat.le_of_ble_eq_true rfl, Nat.le_of_ble_eq_true rfl⟩) hP hD hS hA (fun u H locs hw hP hD hS => ?_)
                  obtain ⟨n_108, f_109⟩ := u
                  try dsimp only at hw
                  have hP : va_P D vwCl (mwd y ad zw (tI (sI (sI (tI (tI (sI (tI (sI (tI (sI (sI (sI (sI (sI (sI (sI (sI (sI (tI (tI (sI (tI (sI (tI (sI (sI (sI (sI (sI (sI σ 2 n_1) 4 n_2) 5 n_3) 6 n_4) 23 n_5) 29 n_6) 27 f_7) 32 n_8) 30 f_9) 31 n_10) 24 f_11) 26 f_12) 40 n_13) 2 n_17) 2 i_83) 2 n_84) 4 n_85) 5 n_86) 6 n_87) 23 n_88) 29 n_89) 27 f_90) 32 n_91) 30 f_92) 31 n_93) 24 f_94) 26 f_95) 40 n_96) 29 n_108) 27 f_109)) H := hP
                  have hD : va_D A (mwd y ad zw (tI (sI (sI (tI (tI (sI (tI (sI (tI (sI (sI (sI (sI (sI (sI (sI (sI (sI (tI (tI (sI (tI (sI (tI (sI (sI (sI (sI (sI (sI σ 2 n_1) 4 n_2) 5 n_3) 6 n_4) 23 n_5) 29 n_6) 27 f_7) 32 n_8) 30 f_9) 31 n_10) 24 f_11) 26 f_12) 40 n_13) 2 n_17) 2 i_83) 2 n_84) 4 n_85) 5 n_86) 6 n_87) 23 n_88) 29 n_89) 27 f_90) 32 n_91) 30 f_92) 31 n_93) 24 f_94) 26 f_95) 40 n_96) 29 n_108) 27 f_109)) := hD
                  replace hw : n_108.toInt = (n_89).toInt + 1 ∧ f_109 = upd (f_90) (n_89).toInt.toNat (13 : Int32) := hw
                  obtain ⟨hcd1, hcd2⟩ := hw
                  have hP : va_P D vwCl (mwd y ad zw (sI (tI (tI (sI (tI (sI (tI (sI (sI (sI (sI (sI (sI σ 2 n_84) 4 n_85) 5 n_86) 6 n_87) 23 n_88) 29 n_108) 27 f_109) 32 n_91) 30 f_92) 31 n_93) 24 f_94) 26 f_95) 40 n_96)) H := hP
                  have hD : va_D A (mwd y ad zw (sI (tI (tI (sI (tI (sI (tI (sI (sI (sI (sI (sI (sI σ 2 n_84) 4 n_85) 5 n_86) 6 n_87) 23 n_88) 29 n_108) 27 f_109) 32 n_91) 30 f_92) 31 n_93) 24 f_94) 26 f_95) 40 n_96)) := hD
                  exact x_vretW (u := (n_84, n_85, n_86, n_87, n_88, n_108, f_109, n_91, f_92, n_93, f_94, f_95, n_96)) hx hb hr hQ (by (try dsimp only); exact ⟨⟨by omega, by omega, by omega, by omega, by omega, by omega, by omega, hhb, by omega, by omega, (ht11.trans hp11), fun h9 => absurd h9 (by omega)⟩, hg_97⟩) hP hD hK hS dX12_fact_87 hlocks
                · have kc_107 : r_16.toInt = 62 := by have h9 := c_107; simp only [ge_iff_le, gt_iff_lt, x_lt, x_le, x_eq, ne_eq, Int32.not_lt, Int32.not_le] at h9; simp only [Int32.reduceToInt] at h9; omega
                  refine lv_bipush (v := 12) hx hb dX12_fact_77 (by decide) ?_
                  refine lv_goto (tgt := 84) hx hb dX12_fact_79 (by decide) ?_
                  refine x_callvW (va_runV (As := [.int 12]) (rest := []) ⟨hx, hb, hml, hown, hts⟩ (q_code l D y H.size ad zw (sI (tI (tI (sI (tI (sI (tI (sI (sI (sI (sI (sI (sI (sI (sI (sI (tI (tI (sI (tI (sI (tI (sI (sI (sI (sI (sI (sI σ 2 n_1) 4 n_2) 5 n_3) 6 n_4) 23 n_5) 29 n_6) 27 f_7) 32 n_8) 30 f_9) 31 n_10) 24 f_11) 26 f_12) 40 n_13) 2 n_17) 2 i_83) 2 n_84) 4 n_85) 5 n_86) 6 n_87) 23 n_88) 29 n_89) 27 f_90) 32 n_91) 30 f_92) 31 n_93) 24 f_94) 26 f_95) 40 n_96) 12 (show 0 ≤ (n_89).toInt from by first | omega | decide) (show (n_89).toInt < 1200 from by first | omega | decide)) (cwV 1 hts g_q_fact_2 rfl rfl rfl (by decide +kernel) ⟨Nat.le_of_ble_eq_true rfl, Nat.le_of_ble_eq_true rfl⟩) (x_preV (q := (RX12, TX12, 85)) hK hP hD (ci := 11) (q0 := 0) rfl mwd_o0) rfl rfl hl.1 rfl (lv_room (Nat.le_of_ble_eq_true rfl)) dX12_fact_84 ⟨Nat.le_of_ble_eq_true rfl, Nat.le_of_ble_eq_true rfl⟩) hP hD hS hA (fun u H locs hw hP hD hS => ?_)
                  obtain ⟨n_110, f_111⟩ := u
                  try dsimp only at hw
                  have hP : va_P D vwCl (mwd y ad zw (tI (sI (sI (tI (tI (sI (tI (sI (tI (sI (sI (sI (sI (sI (sI (sI (sI (sI (tI (tI (sI (tI (sI (tI (sI (sI (sI (sI (sI (sI σ 2 n_1) 4 n_2) 5 n_3) 6 n_4) 23 n_5) 29 n_6) 27 f_7) 32 n_8) 30 f_9) 31 n_10) 24 f_11) 26 f_12) 40 n_13) 2 n_17) 2 i_83) 2 n_84) 4 n_85) 5 n_86) 6 n_87) 23 n_88) 29 n_89) 27 f_90) 32 n_91) 30 f_92) 31 n_93) 24 f_94) 26 f_95) 40 n_96) 29 n_110) 27 f_111)) H := hP
                  have hD : va_D A (mwd y ad zw (tI (sI (sI (tI (tI (sI (tI (sI (tI (sI (sI (sI (sI (sI (sI (sI (sI (sI (tI (tI (sI (tI (sI (tI (sI (sI (sI (sI (sI (sI σ 2 n_1) 4 n_2) 5 n_3) 6 n_4) 23 n_5) 29 n_6) 27 f_7) 32 n_8) 30 f_9) 31 n_10) 24 f_11) 26 f_12) 40 n_13) 2 n_17) 2 i_83) 2 n_84) 4 n_85) 5 n_86) 6 n_87) 23 n_88) 29 n_89) 27 f_90) 32 n_91) 30 f_92) 31 n_93) 24 f_94) 26 f_95) 40 n_96) 29 n_110) 27 f_111)) := hD
                  replace hw : n_110.toInt = (n_89).toInt + 1 ∧ f_111 = upd (f_90) (n_89).toInt.toNat (12 : Int32) := hw
                  obtain ⟨hcd1, hcd2⟩ := hw
                  have hP : va_P D vwCl (mwd y ad zw (sI (tI (tI (sI (tI (sI (tI (sI (sI (sI (sI (sI (sI σ 2 n_84) 4 n_85) 5 n_86) 6 n_87) 23 n_88) 29 n_110) 27 f_111) 32 n_91) 30 f_92) 31 n_93) 24 f_94) 26 f_95) 40 n_96)) H := hP
                  have hD : va_D A (mwd y ad zw (sI (tI (tI (sI (tI (sI (tI (sI (sI (sI (sI (sI (sI σ 2 n_84) 4 n_85) 5 n_86) 6 n_87) 23 n_88) 29 n_110) 27 f_111) 32 n_91) 30 f_92) 31 n_93) 24 f_94) 26 f_95) 40 n_96)) := hD
                  exact x_vretW (u := (n_84, n_85, n_86, n_87, n_88, n_110, f_111, n_91, f_92, n_93, f_94, f_95, n_96)) hx hb hr hQ (by (try dsimp only); exact ⟨⟨by omega, by omega, by omega, by omega, by omega, by omega, by omega, hhb, by omega, by omega, (ht11.trans hp11), fun h9 => absurd h9 (by omega)⟩, hg_97⟩) hP hD hK hS dX12_fact_87 hlocks
              · have kc_106 : r_16.toInt = 60 := by have h9 := c_106; simp only [ge_iff_le, gt_iff_lt, x_lt, x_le, x_eq, ne_eq, Int32.not_lt, Int32.not_le] at h9; simp only [Int32.reduceToInt] at h9; omega
                refine lv_bipush (v := 11) hx hb dX12_fact_66 (by decide) ?_
                refine lv_goto (tgt := 84) hx hb dX12_fact_68 (by decide) ?_
                refine x_callvW (va_runV (As := [.int 11]) (rest := []) ⟨hx, hb, hml, hown, hts⟩ (q_code l D y H.size ad zw (sI (tI (tI (sI (tI (sI (tI (sI (sI (sI (sI (sI (sI (sI (sI (sI (tI (tI (sI (tI (sI (tI (sI (sI (sI (sI (sI (sI σ 2 n_1) 4 n_2) 5 n_3) 6 n_4) 23 n_5) 29 n_6) 27 f_7) 32 n_8) 30 f_9) 31 n_10) 24 f_11) 26 f_12) 40 n_13) 2 n_17) 2 i_83) 2 n_84) 4 n_85) 5 n_86) 6 n_87) 23 n_88) 29 n_89) 27 f_90) 32 n_91) 30 f_92) 31 n_93) 24 f_94) 26 f_95) 40 n_96) 11 (show 0 ≤ (n_89).toInt from by first | omega | decide) (show (n_89).toInt < 1200 from by first | omega | decide)) (cwV 1 hts g_q_fact_2 rfl rfl rfl (by decide +kernel) ⟨Nat.le_of_ble_eq_true rfl, Nat.le_of_ble_eq_true rfl⟩) (x_preV (q := (RX12, TX12, 85)) hK hP hD (ci := 11) (q0 := 0) rfl mwd_o0) rfl rfl hl.1 rfl (lv_room (Nat.le_of_ble_eq_true rfl)) dX12_fact_84 ⟨Nat.le_of_ble_eq_true rfl, Nat.le_of_ble_eq_true rfl⟩) hP hD hS hA (fun u H locs hw hP hD hS => ?_)
                obtain ⟨n_112, f_113⟩ := u
                try dsimp only at hw
                have hP : va_P D vwCl (mwd y ad zw (tI (sI (sI (tI (tI (sI (tI (sI (tI (sI (sI (sI (sI (sI (sI (sI (sI (sI (tI (tI (sI (tI (sI (tI (sI (sI (sI (sI (sI (sI σ 2 n_1) 4 n_2) 5 n_3) 6 n_4) 23 n_5) 29 n_6) 27 f_7) 32 n_8) 30 f_9) 31 n_10) 24 f_11) 26 f_12) 40 n_13) 2 n_17) 2 i_83) 2 n_84) 4 n_85) 5 n_86) 6 n_87) 23 n_88) 29 n_89) 27 f_90) 32 n_91) 30 f_92) 31 n_93) 24 f_94) 26 f_95) 40 n_96) 29 n_112) 27 f_113)) H := hP
                have hD : va_D A (mwd y ad zw (tI (sI (sI (tI (tI (sI (tI (sI (tI (sI (sI (sI (sI (sI (sI (sI (sI (sI (tI (tI (sI (tI (sI (tI (sI (sI (sI (sI (sI (sI σ 2 n_1) 4 n_2) 5 n_3) 6 n_4) 23 n_5) 29 n_6) 27 f_7) 32 n_8) 30 f_9) 31 n_10) 24 f_11) 26 f_12) 40 n_13) 2 n_17) 2 i_83) 2 n_84) 4 n_85) 5 n_86) 6 n_87) 23 n_88) 29 n_89) 27 f_90) 32 n_91) 30 f_92) 31 n_93) 24 f_94) 26 f_95) 40 n_96) 29 n_112) 27 f_113)) := hD
                replace hw : n_112.toInt = (n_89).toInt + 1 ∧ f_113 = upd (f_90) (n_89).toInt.toNat (11 : Int32) := hw
                obtain ⟨hcd1, hcd2⟩ := hw
                have hP : va_P D vwCl (mwd y ad zw (sI (tI (tI (sI (tI (sI (tI (sI (sI (sI (sI (sI (sI σ 2 n_84) 4 n_85) 5 n_86) 6 n_87) 23 n_88) 29 n_112) 27 f_113) 32 n_91) 30 f_92) 31 n_93) 24 f_94) 26 f_95) 40 n_96)) H := hP
                have hD : va_D A (mwd y ad zw (sI (tI (tI (sI (tI (sI (tI (sI (sI (sI (sI (sI (sI σ 2 n_84) 4 n_85) 5 n_86) 6 n_87) 23 n_88) 29 n_112) 27 f_113) 32 n_91) 30 f_92) 31 n_93) 24 f_94) 26 f_95) 40 n_96)) := hD
                exact x_vretW (u := (n_84, n_85, n_86, n_87, n_88, n_112, f_113, n_91, f_92, n_93, f_94, f_95, n_96)) hx hb hr hQ (by (try dsimp only); exact ⟨⟨by omega, by omega, by omega, by omega, by omega, by omega, by omega, hhb, by omega, by omega, (ht11.trans hp11), fun h9 => absurd h9 (by omega)⟩, hg_97⟩) hP hD hK hS dX12_fact_87 hlocks
          · have kc_82 : r_16.toInt ≠ 61 := by have h9 := c_82; simp only [ge_iff_le, gt_iff_lt, x_lt, x_le, x_eq, ne_eq, Int32.not_lt, Int32.not_le] at h9; simp only [Int32.reduceToInt] at h9; omega
            refine lv_aload_n hx hb dX12_fact_35 rfl (lv_at hl 1 rfl) ?_
            refine lv_iconst (v := 1) hx hb dX12_fact_36 (by decide) ?_
            refine lv_aload_n hx hb dX12_fact_37 rfl (lv_at hl 1 rfl) ?_
            refine va_get (D := D) (ci := 11) (v := .int n_17) (C := RX12) (T := TX12) (N := 85) hx hb hts inX12 hown hK hP 0 mwd_o0 rfl 2 (by decide) fl197 (fun _ h9 => h9) rfl dX12_fact_38 ?_
            refine x_callvW (va_runV (As := [.int 1, .int n_17]) (rest := []) ⟨hx, hb, hml, hown, hts⟩ (q_fail l D y H.size ad zw (sI (sI (tI (tI (sI (tI (sI (tI (sI (sI (sI (sI (sI (sI σ 2 n_1) 4 n_2) 5 n_3) 6 n_4) 23 n_5) 29 n_6) 27 f_7) 32 n_8) 30 f_9) 31 n_10) 24 f_11) 26 f_12) 40 n_13) 2 n_17) 1 n_17) (cwV 2 hts g_q_fact_3 rfl rfl rfl (by decide +kernel) ⟨Nat.le_of_ble_eq_true rfl, Nat.le_of_ble_eq_true rfl⟩) (x_preV (q := (RX12, TX12, 85)) hK hP hD (ci := 11) (q0 := 0) rfl mwd_o0) rfl rfl hl.1 rfl (lv_room (Nat.le_of_ble_eq_true rfl)) dX12_fact_41 ⟨Nat.le_of_ble_eq_true rfl, Nat.le_of_ble_eq_true rfl⟩) hP hD hS hA (fun u H locs hw hP hD hS => ?_)
            obtain ⟨b_114, b_115⟩ := u
            try dsimp only at hw
            have hP : va_P D vwCl (mwd y ad zw (sI (sI (sI (sI (tI (tI (sI (tI (sI (tI (sI (sI (sI (sI (sI (sI σ 2 n_1) 4 n_2) 5 n_3) 6 n_4) 23 n_5) 29 n_6) 27 f_7) 32 n_8) 30 f_9) 31 n_10) 24 f_11) 26 f_12) 40 n_13) 2 n_17) 5 b_114) 6 b_115)) H := hP
            have hD : va_D A (mwd y ad zw (sI (sI (sI (sI (tI (tI (sI (tI (sI (tI (sI (sI (sI (sI (sI (sI σ 2 n_1) 4 n_2) 5 n_3) 6 n_4) 23 n_5) 29 n_6) 27 f_7) 32 n_8) 30 f_9) 31 n_10) 24 f_11) 26 f_12) 40 n_13) 2 n_17) 5 b_114) 6 b_115)) := hD
            replace hw : b_114 = if n_3 = 0 then (1 : Int32) else n_3 := hw
            have hbd : b_114.toInt ≠ 0 := by rw [hw]; split <;> first | decide | (rename_i h9; intro h8; exact h9 (Int32.toInt_inj.mp (by rw [h8]; rfl)))
            clear hw
            have hP : va_P D vwCl (mwd y ad zw (sI (tI (tI (sI (tI (sI (tI (sI (sI (sI (sI (sI (sI σ 2 n_17) 4 n_2) 5 b_114) 6 b_115) 23 n_5) 29 n_6) 27 f_7) 32 n_8) 30 f_9) 31 n_10) 24 f_11) 26 f_12) 40 n_13)) H := hP
            have hD : va_D A (mwd y ad zw (sI (tI (tI (sI (tI (sI (tI (sI (sI (sI (sI (sI (sI σ 2 n_17) 4 n_2) 5 b_114) 6 b_115) 23 n_5) 29 n_6) 27 f_7) 32 n_8) 30 f_9) 31 n_10) 24 f_11) 26 f_12) 40 n_13)) := hD
            exact x_vretW (u := (n_17, n_2, b_114, b_115, n_5, n_6, f_7, n_8, f_9, n_10, f_11, f_12, n_13)) hx hb hr hQ (by (try dsimp only); exact ⟨⟨by omega, by omega, by omega, by omega, by omega, by omega, by omega, hp8, by omega, by omega, hp11, fun h9 => absurd h9 (by omega)⟩, hg_14⟩) hP hD hK hS dX12_fact_44 hlocks
    · have kc_15 : n_3.toInt ≠ 0 := by have h9 := c_15; simp only [ge_iff_le, gt_iff_lt, x_lt, x_le, x_eq, ne_eq, Int32.not_lt, Int32.not_le] at h9; simp only [Int32.reduceToInt] at h9; omega
      exfalso
      omega
  · clear hpi
    refine lv_aload_n hx hb dX12_fact_4 rfl (lv_at hl 0 rfl) ?_
    refine va_get (D := D) (ci := 11) (v := .int n_3) (C := RX12) (T := TX12) (N := 85) hx hb hts inX12 hown hK hP 0 mwd_o0 rfl 5 (by decide) fl191 (fun _ h9 => h9) rfl dX12_fact_5 ?_
    refine lv_if_eq (tgt := 12) hx hb dX12_fact_8 (by decide) (fun c_116 => ?_) (fun c_116 => ?_)
    · have kc_116 : n_3.toInt = 0 := by have h9 := c_116; simp only [ge_iff_le, gt_iff_lt, x_lt, x_le, x_eq, ne_eq, Int32.not_lt, Int32.not_le] at h9; simp only [Int32.reduceToInt] at h9; omega
      exfalso
      omega
    · have kc_116 : n_3.toInt ≠ 0 := by have h9 := c_116; simp only [ge_iff_le, gt_iff_lt, x_lt, x_le, x_eq, ne_eq, Int32.not_lt, Int32.not_le] at h9; simp only [Int32.reduceToInt] at h9; omega
      exact x_vretW (u := (n_1, n_2, n_3, n_4, n_5, n_6, f_7, n_8, f_9, n_10, f_11, f_12, n_13)) hx hb hr hQ (by (try dsimp only); exact ⟨⟨by omega, by omega, by omega, by omega, by omega, by omega, by omega, hp8, by omega, by omega, hp11, fun h9 => absurd h9 (by omega)⟩, hg_14⟩) hP hD hK hS dX12_fact_11 hlocks

