theorem TS_PC {f0 f w w0 : Nat → Int32} {c0 c n : Nat} {X op o0 : Int} (h : TS f0 f w c0 c n 1 X op o0) (hn : n = 0) : PC f0 f w0 w c0 c 0 X [false] ∧ op = o0 := by
  subst hn
  refine ⟨⟨h.1, h.2.1, h.2.2.1, fun k hk => absurd hk (by omega), fun T => TS_end h T⟩, ?_⟩
  have e := h.2.2.2.2.1
  have e2 : oc w 0 = 0 := rfl
  omega
theorem TS_lo {f0 f w : Nat → Int32} {c0 c n d : Nat} {X op o0 : Int} (h : TS f0 f w c0 c n d X op o0) : ∀ k : Nat, k < n → ¬ (1 ≤ (w k).toInt ∧ (w k).toInt ≤ 4) := fun k hk h2 => by
  have h1 := h.2.2.2.1 k hk
  omega
theorem TS_oc {f0 f w : Nat → Int32} {c0 c n d : Nat} {X op o0 : Int} (h : TS f0 f w c0 c n d X op o0) (ho : 0 ≤ o0) : (oc w n : Int) ≤ op := by
  have h1 := h.2.2.2.2.1
  omega

theorem dX12_test_0 : decode cX12_test 0 = .ok (.iconst 1, 1) := by decide +kernel
theorem dX12_test_1 : decode cX12_test 1 = .ok (.istore_n 1, 1) := by decide +kernel
theorem dX12_test_2 : decode cX12_test 2 = .ok (.iload_n 1, 1) := by decide +kernel
theorem dX12_test_3 : decode cX12_test 3 = .ok (.ifCond .eq 107, 3) := by decide +kernel
theorem dX12_test_6 : decode cX12_test 6 = .ok (.aload_n 0, 1) := by decide +kernel
theorem dX12_test_7 : decode cX12_test 7 = .ok (.getfield 191, 3) := by decide +kernel
theorem dX12_test_10 : decode cX12_test 10 = .ok (.ifCond .ne 100, 3) := by decide +kernel
theorem dX12_test_13 : decode cX12_test 13 = .ok (.aload_n 0, 1) := by decide +kernel
theorem dX12_test_14 : decode cX12_test 14 = .ok (.invokevirtual 203, 3) := by decide +kernel
theorem dX12_test_17 : decode cX12_test 17 = .ok (.istore_n 2, 1) := by decide +kernel
theorem dX12_test_18 : decode cX12_test 18 = .ok (.iload_n 2, 1) := by decide +kernel
theorem dX12_test_19 : decode cX12_test 19 = .ok (.bipush 91, 2) := by decide +kernel
theorem dX12_test_21 : decode cX12_test 21 = .ok (.if_icmp .ne 26, 3) := by decide +kernel
theorem dX12_test_24 : decode cX12_test 24 = .ok (.aload_n 0, 1) := by decide +kernel
theorem dX12_test_25 : decode cX12_test 25 = .ok (.bipush 30, 2) := by decide +kernel
theorem dX12_test_27 : decode cX12_test 27 = .ok (.aload_n 0, 1) := by decide +kernel
theorem dX12_test_28 : decode cX12_test 28 = .ok (.getfield 197, 3) := by decide +kernel
theorem dX12_test_31 : decode cX12_test 31 = .ok (.invokevirtual 279, 3) := by decide +kernel
theorem dX12_test_34 : decode cX12_test 34 = .ok (.aload_n 0, 1) := by decide +kernel
theorem dX12_test_35 : decode cX12_test 35 = .ok (.dup, 1) := by decide +kernel
theorem dX12_test_36 : decode cX12_test 36 = .ok (.getfield 197, 3) := by decide +kernel
theorem dX12_test_39 : decode cX12_test 39 = .ok (.iconst 1, 1) := by decide +kernel
theorem dX12_test_40 : decode cX12_test 40 = .ok (.iadd, 1) := by decide +kernel
theorem dX12_test_41 : decode cX12_test 41 = .ok (.putfield 197, 3) := by decide +kernel
theorem dX12_test_44 : decode cX12_test 44 = .ok (.goto (-42), 3) := by decide +kernel
theorem dX12_test_47 : decode cX12_test 47 = .ok (.aload_n 0, 1) := by decide +kernel
theorem dX12_test_48 : decode cX12_test 48 = .ok (.aload_n 0, 1) := by decide +kernel
theorem dX12_test_49 : decode cX12_test 49 = .ok (.getfield 48, 3) := by decide +kernel
theorem dX12_test_52 : decode cX12_test 52 = .ok (.invokevirtual 214, 3) := by decide +kernel
theorem dX12_test_55 : decode cX12_test 55 = .ok (.ifCond .eq 24, 3) := by decide +kernel
theorem dX12_test_58 : decode cX12_test 58 = .ok (.aload_n 0, 1) := by decide +kernel
theorem dX12_test_59 : decode cX12_test 59 = .ok (.bipush 16, 2) := by decide +kernel
theorem dX12_test_61 : decode cX12_test 61 = .ok (.aload_n 0, 1) := by decide +kernel
theorem dX12_test_62 : decode cX12_test 62 = .ok (.getfield 197, 3) := by decide +kernel
theorem dX12_test_65 : decode cX12_test 65 = .ok (.invokevirtual 279, 3) := by decide +kernel
theorem dX12_test_68 : decode cX12_test 68 = .ok (.aload_n 0, 1) := by decide +kernel
theorem dX12_test_69 : decode cX12_test 69 = .ok (.aload_n 0, 1) := by decide +kernel
theorem dX12_test_70 : decode cX12_test 70 = .ok (.getfield 48, 3) := by decide +kernel
theorem dX12_test_73 : decode cX12_test 73 = .ok (.invokevirtual 282, 3) := by decide +kernel
theorem dX12_test_76 : decode cX12_test 76 = .ok (.goto (-74), 3) := by decide +kernel
theorem dX12_test_79 : decode cX12_test 79 = .ok (.aload_n 0, 1) := by decide +kernel
theorem dX12_test_80 : decode cX12_test 80 = .ok (.invokevirtual 320, 3) := by decide +kernel
theorem dX12_test_83 : decode cX12_test 83 = .ok (.aload_n 0, 1) := by decide +kernel
theorem dX12_test_84 : decode cX12_test 84 = .ok (.invokevirtual 323, 3) := by decide +kernel
theorem dX12_test_87 : decode cX12_test 87 = .ok (.aload_n 0, 1) := by decide +kernel
theorem dX12_test_88 : decode cX12_test 88 = .ok (.getfield 191, 3) := by decide +kernel
theorem dX12_test_91 : decode cX12_test 91 = .ok (.ifCond .ne 14, 3) := by decide +kernel
theorem dX12_test_94 : decode cX12_test 94 = .ok (.aload_n 0, 1) := by decide +kernel
theorem dX12_test_95 : decode cX12_test 95 = .ok (.invokevirtual 326, 3) := by decide +kernel
theorem dX12_test_98 : decode cX12_test 98 = .ok (.ifCond .eq 7, 3) := by decide +kernel
theorem dX12_test_101 : decode cX12_test 101 = .ok (.iconst 1, 1) := by decide +kernel
theorem dX12_test_102 : decode cX12_test 102 = .ok (.goto 4, 3) := by decide +kernel
theorem dX12_test_105 : decode cX12_test 105 = .ok (.iconst 0, 1) := by decide +kernel
theorem dX12_test_106 : decode cX12_test 106 = .ok (.istore_n 1, 1) := by decide +kernel
theorem dX12_test_107 : decode cX12_test 107 = .ok (.goto (-105), 3) := by decide +kernel
theorem dX12_test_110 : decode cX12_test 110 = .ok (.aload_n 0, 1) := by decide +kernel
theorem dX12_test_111 : decode cX12_test 111 = .ok (.getfield 191, 3) := by decide +kernel
theorem dX12_test_114 : decode cX12_test 114 = .ok (.ifCond .ne 17, 3) := by decide +kernel
theorem dX12_test_117 : decode cX12_test 117 = .ok (.aload_n 0, 1) := by decide +kernel
theorem dX12_test_118 : decode cX12_test 118 = .ok (.getfield 263, 3) := by decide +kernel
theorem dX12_test_121 : decode cX12_test 121 = .ok (.ifCond .le 10, 3) := by decide +kernel
theorem dX12_test_124 : decode cX12_test 124 = .ok (.aload_n 0, 1) := by decide +kernel
theorem dX12_test_125 : decode cX12_test 125 = .ok (.invokevirtual 276, 3) := by decide +kernel
theorem dX12_test_128 : decode cX12_test 128 = .ok (.goto (-18), 3) := by decide +kernel
theorem dX12_test_131 : decode cX12_test 131 = .ok (.return_, 1) := by decide +kernel
def v_q_dropsNotsB : List Cond := .code yX12_dropsNots cX12_dropsNots 1 none :: ([.fieldLink RX12 191 "SlopeRunnerModel" "bad" "I"] ++ wsX120)
set_option maxHeartbeats 4000000 in
set_option maxRecDepth 100000 in
theorem q_dropsNotsB (l : Launch) (D : va_G) (y : Nat → ClassId) (sz : Nat) (ad : Nat → Nat) (zw : Nat → Nat → Int32) (σ : OS) (hb0 : (σ.1 5).toInt ≠ 0) : Met l yX12_dropsNots v_q_dropsNotsB ({ frames := 0, cells := 0, slots := 0, locals := 0 } : Room) (va_Pc [.ref (ad 1)] (xPre D (xT y) (mwd y ad zw σ) sz)) (va_Qv (fun (_ : Unit) => True) (fun (u : Unit) => xB D (xT y) (va_A (mwd y ad zw σ) sz) (mwd y ad zw σ)) (va_A (mwd y ad zw σ) sz)) 0 0 (va_A (mwd y ad zw σ) sz) := by
  refine x_metv (cc := cX12_dropsNots) (maxL := 1) (by decide) rfl (Nat.le_of_ble_eq_true rfl) ?_
  intro p e s m below meth c A H locs Q hx hb hml hown hts hr hlocks hmn hA hP hK hD hS ls hl hQ
  have hl : lv_has ls 1 [(0, .ref (ad 1))] := hl
  have fl191 := hts (.fieldLink RX12 191 "SlopeRunnerModel" "bad" "I") (List.mem_of_getElem? (i := 1) rfl)
  have inX12 : ∀ w ∈ wsX120, w ∈ v_q_dropsNotsB := (fun w h => List.mem_cons_of_mem _ (List.mem_append_right _ h))
  have kk_0 : (0 : Int32).toInt = 0 := rfl
  refine lv_aload_n hx hb dX12_dropsNots_0 rfl (lv_at hl 0 rfl) ?_
  refine va_get (D := D) (ci := 11) (v := .int (σ.1 5)) (C := RX12) (T := TX12) (N := 85) hx hb hts inX12 hown hK hP 0 mwd_o0 rfl 5 (by decide) fl191 (fun _ h9 => h9) rfl dX12_dropsNots_1 ?_
  refine lv_if_ne (tgt := 33) hx hb dX12_dropsNots_4 (by decide) (fun c_1 => ?_) (fun c_1 => ?_)
  · have kc_1 : (σ.1 5).toInt ≠ 0 := by have h9 := c_1; simp only [ge_iff_le, gt_iff_lt, x_lt, x_le, x_eq, ne_eq, Int32.not_lt, Int32.not_le] at h9; simp only [Int32.reduceToInt] at h9; omega
    exact x_vretW (u := ()) hx hb hr hQ trivial hP hD hK hS dX12_dropsNots_33 hlocks
  · have kc_1 : (σ.1 5).toInt = 0 := by have h9 := c_1; simp only [ge_iff_le, gt_iff_lt, x_lt, x_le, x_eq, ne_eq, Int32.not_lt, Int32.not_le] at h9; simp only [Int32.reduceToInt] at h9; omega
    exfalso
    omega

def v_q_test : List Cond := .code yX12_test cX12_test 3 none :: ([.fieldLink RX12 191 "SlopeRunnerModel" "bad" "I", .fieldLink RX12 263 "SlopeRunnerModel" "waits" "I", .fieldLink RX12 48 "SlopeRunnerModel" "notWord" "[C", .fieldLink RX12 197 "SlopeRunnerModel" "at" "I"] ++ ((wsV RX12 276 RX12 yX12_drops v_q_drops) ++ ((wsV RX12 203 RX12 yX12_look v_q_look2) ++ ((wsV RX12 214 RX12 yX12_isHere v_q_isHere) ++ ((wsV RX12 320 RX12 yX12_fact v_q_fact) ++ ((wsV RX12 323 RX12 yX12_dropsNots v_q_dropsNots) ++ ((wsV RX12 326 RX12 yX12_goesOnTest v_q_goesOnTest) ++ ((wsV RX12 323 RX12 yX12_dropsNots v_q_dropsNotsB) ++ ((wsV RX12 279 RX12 yX12_opensOne v_q_opensOne) ++ ((wsV RX12 282 RX12 yX12_asks v_q_asks) ++ wsX120))))))))))
theorem g_q_test_0 : GoodIn v_q_test (wsV RX12 276 RX12 yX12_drops v_q_drops) := goodIn_sub (fun w h => List.mem_cons_of_mem _ (List.mem_append_right _ (List.mem_append_left _ h))) (by decide +kernel)
theorem g_q_test_1 : GoodIn v_q_test (wsV RX12 203 RX12 yX12_look v_q_look2) := goodIn_sub (fun w h => List.mem_cons_of_mem _ (List.mem_append_right _ (List.mem_append_right _ (List.mem_append_left _ h)))) (by decide +kernel)
theorem g_q_test_2 : GoodIn v_q_test (wsV RX12 214 RX12 yX12_isHere v_q_isHere) := goodIn_sub (fun w h => List.mem_cons_of_mem _ (List.mem_append_right _ (List.mem_append_right _ (List.mem_append_right _ (List.mem_append_left _ h))))) (by decide +kernel)
theorem g_q_test_3 : GoodIn v_q_test (wsV RX12 320 RX12 yX12_fact v_q_fact) := goodIn_sub (fun w h => List.mem_cons_of_mem _ (List.mem_append_right _ (List.mem_append_right _ (List.mem_append_right _ (List.mem_append_right _ (List.mem_append_left _ h)))))) (by decide +kernel)
theorem g_q_test_4 : GoodIn v_q_test (wsV RX12 323 RX12 yX12_dropsNots v_q_dropsNots) := goodIn_sub (fun w h => List.mem_cons_of_mem _ (List.mem_append_right _ (List.mem_append_right _ (List.mem_append_right _ (List.mem_append_right _ (List.mem_append_right _ (List.mem_append_left _ h))))))) (by decide +kernel)
theorem g_q_test_5 : GoodIn v_q_test (wsV RX12 326 RX12 yX12_goesOnTest v_q_goesOnTest) := goodIn_sub (fun w h => List.mem_cons_of_mem _ (List.mem_append_right _ (List.mem_append_right _ (List.mem_append_right _ (List.mem_append_right _ (List.mem_append_right _ (List.mem_append_right _ (List.mem_append_left _ h)))))))) (by decide +kernel)
theorem g_q_test_6 : GoodIn v_q_test (wsV RX12 323 RX12 yX12_dropsNots v_q_dropsNotsB) := goodIn_sub (fun w h => List.mem_cons_of_mem _ (List.mem_append_right _ (List.mem_append_right _ (List.mem_append_right _ (List.mem_append_right _ (List.mem_append_right _ (List.mem_append_right _ (List.mem_append_right _ (List.mem_append_left _ h))))))))) (by decide +kernel)
theorem g_q_test_7 : GoodIn v_q_test (wsV RX12 279 RX12 yX12_opensOne v_q_opensOne) := goodIn_sub (fun w h => List.mem_cons_of_mem _ (List.mem_append_right _ (List.mem_append_right _ (List.mem_append_right _ (List.mem_append_right _ (List.mem_append_right _ (List.mem_append_right _ (List.mem_append_right _ (List.mem_append_right _ (List.mem_append_left _ h)))))))))) (by decide +kernel)
theorem g_q_test_8 : GoodIn v_q_test (wsV RX12 282 RX12 yX12_asks v_q_asks) := goodIn_sub (fun w h => List.mem_cons_of_mem _ (List.mem_append_right _ (List.mem_append_right _ (List.mem_append_right _ (List.mem_append_right _ (List.mem_append_right _ (List.mem_append_right _ (List.mem_append_right _ (List.mem_append_right _ (List.mem_append_right _ (List.mem_append_left _ h))))))))))) (by decide +kernel)
set_option maxHeartbeats 4000000 in
set_option maxRecDepth 100000 in
theorem q_test (l : Launch) (D : va_G) (y : Nat → ClassId) (sz : Nat) (ad : Nat → Nat) (zw : Nat → Nat → Int32) (σ : OS) (ha0 : 0 ≤ (σ.1 2).toInt) (ha1 : (σ.1 2).toInt ≤ (σ.1 3).toInt) (ha2 : (σ.1 3).toInt ≤ 700) (hb0 : (σ.1 5).toInt = 0) (hn0 : 0 ≤ (σ.1 33).toInt) (hn1 : (σ.1 33).toInt ≤ 24) (ho0 : 0 ≤ (σ.1 32).toInt) (ho1 : (σ.1 32).toInt ≤ 8) (hw0 : 0 ≤ (σ.1 31).toInt) (hc0 : 0 ≤ (σ.1 29).toInt) (hcw : (σ.1 29).toInt + (σ.1 31).toInt ≤ (σ.1 2).toInt + 20) (hha0 : 0 ≤ (σ.2.2.1 24 4).toInt) (hhb0 : (σ.2.2.1 24 4).toInt ≤ (σ.1 2).toInt + 20) (hwz : (σ.1 31).toInt = 0)  (hB35 : bI (σ.2.2.1 35) 0 23) (hB26 : bI (σ.2.2.1 26) 0 9999) : Met l yX12_test v_q_test ({ frames := 9, cells := 0, slots := 0, locals := 197 } : Room) (va_Pc [.ref (ad 1)] (xPre D (xT y) (mwd y ad zw σ) sz)) (va_Qv (fun (u : Int32 × Int32 × Int32 × Int32 × Int32 × Int32 × (Nat → Int32) × Int32 × (Nat → Int32) × Int32 × (Nat → Int32) × (Nat → Int32) × Int32) => ((σ.1 2).toInt ≤ u.1.toInt ∧ u.1.toInt ≤ (σ.1 3).toInt ∧ 0 ≤ u.2.2.2.2.2.2.2.1.toInt ∧ u.2.2.2.2.2.2.2.1.toInt ≤ 8 ∧ 0 ≤ u.2.2.2.2.2.2.2.2.2.1.toInt ∧ (σ.1 29).toInt ≤ u.2.2.2.2.2.1.toInt ∧ u.2.2.2.2.2.1.toInt + u.2.2.2.2.2.2.2.2.2.1.toInt - u.1.toInt ≤ (σ.1 29).toInt + (σ.1 31).toInt - (σ.1 2).toInt + 2 ∧ (∀ k : Nat, k ≠ 4 → u.2.2.2.2.2.2.2.2.2.2.1 k = σ.2.2.1 24 k) ∧ (σ.2.2.1 24 4).toInt ≤ (u.2.2.2.2.2.2.2.2.2.2.1 4).toInt ∧ (u.2.2.2.2.2.2.2.2.2.2.1 4).toInt - u.1.toInt ≤ (σ.2.2.1 24 4).toInt - (σ.1 2).toInt + 1 ∧ u.2.2.2.2.2.2.2.2.2.2.2.2 = (σ.1 40) ∧ (u.2.2.1.toInt = 0 → (σ.1 2).toInt + 1 ≤ u.1.toInt ∧ u.2.2.2.2.2.1.toInt + u.2.2.2.2.2.2.2.2.2.1.toInt - u.1.toInt ≤ (σ.1 29).toInt + (σ.1 31).toInt - (σ.1 2).toInt ∧ (u.2.2.2.2.2.2.2.2.2.2.1 4).toInt - u.1.toInt ≤ (σ.2.2.1 24 4).toInt - (σ.1 2).toInt ∧ u.2.2.2.2.2.2.2.2.2.1.toInt = 0 ∧ u.2.2.2.2.2.2.2.1.toInt = (σ.1 32).toInt ∧ PC (σ.2.2.1 27) u.2.2.2.2.2.2.1 (σ.2.2.1 30) u.2.2.2.2.2.2.2.2.1 ((σ.1 29).toInt.toNat) (u.2.2.2.2.2.1.toInt.toNat) 0 (1000 + (u.2.2.2.2.2.2.2.2.2.2.1 4).toInt) [false])) ∧ bI u.2.2.2.2.2.2.2.2.2.2.2.1 0 9999) (fun (u : Int32 × Int32 × Int32 × Int32 × Int32 × Int32 × (Nat → Int32) × Int32 × (Nat → Int32) × Int32 × (Nat → Int32) × (Nat → Int32) × Int32) => xB D (xT y) (va_A (mwd y ad zw σ) sz) (mwd y ad zw (sI (tI (tI (sI (tI (sI (tI (sI (sI (sI (sI (sI (sI σ 2 u.1) 4 u.2.1) 5 u.2.2.1) 6 u.2.2.2.1) 23 u.2.2.2.2.1) 29 u.2.2.2.2.2.1) 27 u.2.2.2.2.2.2.1) 32 u.2.2.2.2.2.2.2.1) 30 u.2.2.2.2.2.2.2.2.1) 31 u.2.2.2.2.2.2.2.2.2.1) 24 u.2.2.2.2.2.2.2.2.2.2.1) 26 u.2.2.2.2.2.2.2.2.2.2.2.1) 40 u.2.2.2.2.2.2.2.2.2.2.2.2))) (va_A (mwd y ad zw σ) sz)) 0 0 (va_A (mwd y ad zw σ) sz) := by
  refine x_metv (cc := cX12_test) (maxL := 3) (by decide) rfl (Nat.le_of_ble_eq_true rfl) ?_
  intro p e s m below meth c A H locs Q hx hb hml hown hts hr hlocks hmn hA hP hK hD hS ls hl hQ
  have hl : lv_has ls 3 [(0, .ref (ad 1))] := hl
  have kk_0 : (0 : Int32).toInt = 0 := rfl
  have fl191 := hts (.fieldLink RX12 191 "SlopeRunnerModel" "bad" "I") (List.mem_of_getElem? (i := 1) rfl)
  have inX12 : ∀ w ∈ wsX120, w ∈ v_q_test := (fun w h => List.mem_cons_of_mem _ (List.mem_append_right _ (List.mem_append_right _ (List.mem_append_right _ (List.mem_append_right _ (List.mem_append_right _ (List.mem_append_right _ (List.mem_append_right _ (List.mem_append_right _ (List.mem_append_right _ (List.mem_append_right _ h)))))))))))
  have fl263 := hts (.fieldLink RX12 263 "SlopeRunnerModel" "waits" "I") (List.mem_of_getElem? (i := 2) rfl)
  have kk_91 : (91 : Int32).toInt = 91 := rfl
  have fl48 := hts (.fieldLink RX12 48 "SlopeRunnerModel" "notWord" "[C") (List.mem_of_getElem? (i := 3) rfl)
  have fl197 := hts (.fieldLink RX12 197 "SlopeRunnerModel" "at" "I") (List.mem_of_getElem? (i := 4) rfl)
  have kk_16 : (16 : Int32).toInt = 16 := rfl
  have kk_30 : (30 : Int32).toInt = 30 := rfl
  have kk_1 : (1 : Int32).toInt = 1 := rfl
  refine lv_iconst (v := 1) hx hb dX12_test_0 (by decide) ?_
  refine lv_istore_n (lv' := [(1, .int 1), (0, .ref (ad 1))]) hx hb dX12_test_1 rfl hl (by decide) rfl (fun ls hl => ?_)
  have l10 : (1 : Int32).toInt = 1 := rfl
  have l00 : (0 : Int32).toInt = 0 := rfl
  have hP : va_P D vwCl (mwd y ad zw (sI (tI (tI (sI (tI (sI (tI (sI (sI (sI (sI (sI (sI σ 2 (σ.1 2)) 4 (σ.1 4)) 5 (σ.1 5)) 6 (σ.1 6)) 23 (σ.1 23)) 29 (σ.1 29)) 27 (σ.2.2.1 27)) 32 (σ.1 32)) 30 (σ.2.2.1 30)) 31 (σ.1 31)) 24 (σ.2.2.1 24)) 26 (σ.2.2.1 26)) 40 (σ.1 40))) H := hP
  have hD : va_D A (mwd y ad zw (sI (tI (tI (sI (tI (sI (tI (sI (sI (sI (sI (sI (sI σ 2 (σ.1 2)) 4 (σ.1 4)) 5 (σ.1 5)) 6 (σ.1 6)) 23 (σ.1 23)) 29 (σ.1 29)) 27 (σ.2.2.1 27)) 32 (σ.1 32)) 30 (σ.2.2.1 30)) 31 (σ.1 31)) 24 (σ.2.2.1 24)) 26 (σ.2.2.1 26)) 40 (σ.1 40))) := hD
  have loop : ∀ (fu : Nat) (mo : Int32) (a : Int32) (en : Int32) (bd : Int32) (bp : Int32) (np : Int32) (cd : Int32) (fc : Nat → Int32) (op : Int32) (fw : Nat → Int32) (ws : Int32) (fh : Nat → Int32) (fn : Nat → Int32) (ba : Int32) (H : Heap) (locs : List Loc) (ls : Array Slot), (0 ≤ mo.toInt) → (mo.toInt ≤ 1) → (bd.toInt = 0) → ((σ.1 2).toInt + 1 ≤ a.toInt + mo.toInt) → ((σ.1 2).toInt ≤ a.toInt) → (a.toInt ≤ (σ.1 3).toInt) → (0 ≤ op.toInt ∧ op.toInt ≤ 8 ∧ 0 ≤ ws.toInt ∧ (σ.1 29).toInt ≤ cd.toInt) → (cd.toInt + ws.toInt - a.toInt ≤ (σ.1 29).toInt + (σ.1 31).toInt - (σ.1 2).toInt) → (∀ k : Nat, k ≠ 4 → fh k = σ.2.2.1 24 k) → ((σ.2.2.1 24 4).toInt ≤ (fh 4).toInt ∧ (fh 4).toInt - a.toInt ≤ (σ.2.2.1 24 4).toInt - (σ.1 2).toInt) → (ba = (σ.1 40)) → (XE (mo.toInt = 1) (TS (σ.2.2.1 27) fc fw ((σ.1 29).toInt.toNat) (cd.toInt.toNat) (ws.toInt.toNat) 0 (1000 + (fh 4).toInt) op.toInt (σ.1 32).toInt ∧ NT fw ws.toInt.toNat) ∧ XE (mo.toInt = 0) (TS (σ.2.2.1 27) fc fw ((σ.1 29).toInt.toNat) (cd.toInt.toNat) (ws.toInt.toNat) 1 (1000 + (fh 4).toInt) op.toInt (σ.1 32).toInt ∧ NK fw ws.toInt.toNat ∧ ∀ k : Nat, k < ws.toInt.toNat → (fw k).toInt ≠ 30)) → (bI fn 0 9999) → (2 * ((σ.1 3).toInt - a.toInt) + mo.toInt < (fu : Int)) → va_P D vwCl (mwd y ad zw (sI (tI (tI (sI (tI (sI (tI (sI (sI (sI (sI (sI (sI σ 2 a) 4 en) 5 bd) 6 bp) 23 np) 29 cd) 27 fc) 32 op) 30 fw) 31 ws) 24 fh) 26 fn) 40 ba)) H → va_D A (mwd y ad zw (sI (tI (tI (sI (tI (sI (tI (sI (sI (sI (sI (sI (sI σ 2 a) 4 en) 5 bd) 6 bp) 23 np) 29 cd) 27 fc) 32 op) 30 fw) 31 ws) 24 fh) 26 fn) 40 ba)) → va_S A s.heap H locs → lv_has ls 3 [(1, .int mo), (0, .ref (ad 1))] → W p l e ({ frames := 9, cells := 0, slots := 0, locals := 197 } : Room) s m ([.ref (ad 1)] : List Value).toArray below meth c H locs 0 0 Q (F0 m 2 ls []) := by
    intro fu
    induction fu with
    | zero =>
      intro mo a en bd bp np cd fc op fw ws fh fn ba H locs ls hmo0 hmo1 hbd hA0 hA2 hA1 hO hpot hh hh4 hba hE hfn hm
      exact absurd hm (by omega)
    | succ fu ih_loop =>
      intro mo a en bd bp np cd fc op fw ws fh fn ba H locs ls hmo0 hmo1 hbd hA0 hA2 hA1 hO hpot hh hh4 hba hE hfn hm hP hD hS hl
      have l10 : (1 : Int32).toInt = 1 := rfl
      have l00 : (0 : Int32).toInt = 0 := rfl
      refine lv_iload_n hx hb dX12_test_2 rfl (lv_at hl 0 rfl) ?_
      refine lv_if_eq (tgt := 110) hx hb dX12_test_3 (by decide) (fun c_1 => ?_) (fun c_1 => ?_)
      · have kc_1 : mo.toInt = 0 := by have h9 := c_1; simp only [ge_iff_le, gt_iff_lt, x_lt, x_le, x_eq, ne_eq, Int32.not_lt, Int32.not_le] at h9; simp only [Int32.reduceToInt] at h9; omega
        obtain ⟨hE4, hN4, hS4⟩ := hE.2 (by omega)
        have hP : va_P D vwCl (mwd y ad zw (sI (tI (sI (sI (tI (tI (tI (sI (sI (sI (sI (sI (sI σ 2 a) 4 en) 5 bd) 6 bp) 23 np) 32 op) 30 fw) 24 fh) 26 fn) 40 ba) 29 cd) 27 fc) 31 ws)) H := hP
        have hD : va_D A (mwd y ad zw (sI (tI (sI (sI (tI (tI (tI (sI (sI (sI (sI (sI (sI σ 2 a) 4 en) 5 bd) 6 bp) 23 np) 32 op) 30 fw) 24 fh) 26 fn) 40 ba) 29 cd) 27 fc) 31 ws)) := hD
        have loop2 : ∀ (fu : Nat) (cd2 : Int32) (fc2 : Nat → Int32) (ws2 : Int32) (H : Heap) (locs : List Loc) (ls : Array Slot), (0 ≤ ws2.toInt) → ((σ.1 29).toInt ≤ cd2.toInt) → (cd2.toInt + ws2.toInt = cd.toInt + ws.toInt) → (TS (σ.2.2.1 27) fc2 fw ((σ.1 29).toInt.toNat) (cd2.toInt.toNat) (ws2.toInt.toNat) 1 (1000 + (fh 4).toInt) op.toInt (σ.1 32).toInt) → (NK fw ws2.toInt.toNat) → (∀ k : Nat, k < ws2.toInt.toNat → (fw k).toInt ≠ 30) → (ws2.toInt < (fu : Int)) → va_P D vwCl (mwd y ad zw (sI (tI (sI (sI (tI (tI (tI (sI (sI (sI (sI (sI (sI σ 2 a) 4 en) 5 bd) 6 bp) 23 np) 32 op) 30 fw) 24 fh) 26 fn) 40 ba) 29 cd2) 27 fc2) 31 ws2)) H → va_D A (mwd y ad zw (sI (tI (sI (sI (tI (tI (tI (sI (sI (sI (sI (sI (sI σ 2 a) 4 en) 5 bd) 6 bp) 23 np) 32 op) 30 fw) 24 fh) 26 fn) 40 ba) 29 cd2) 27 fc2) 31 ws2)) → va_S A s.heap H locs → lv_has ls 3 [(1, .int mo), (0, .ref (ad 1))] → W p l e ({ frames := 9, cells := 0, slots := 0, locals := 197 } : Room) s m ([.ref (ad 1)] : List Value).toArray below meth c H locs 0 0 Q (F0 m 110 ls []) := by
          intro fu
          induction fu with
          | zero =>
            intro cd2 fc2 ws2 H locs ls hW2 hC2 hp2 hE5 hN5 hS5 hm
            exact absurd hm (by omega)
          | succ fu ih_loop2 =>
            intro cd2 fc2 ws2 H locs ls hW2 hC2 hp2 hE5 hN5 hS5 hm hP hD hS hl
            refine lv_aload_n hx hb dX12_test_110 rfl (lv_at hl 1 rfl) ?_
            refine va_get (D := D) (ci := 11) (v := .int bd) (C := RX12) (T := TX12) (N := 85) hx hb hts inX12 hown hK hP 0 mwd_o0 rfl 5 (by decide) fl191 (fun _ h9 => h9) rfl dX12_test_111 ?_
            refine lv_if_ne (tgt := 131) hx hb dX12_test_114 (by decide) (fun c_2 => ?_) (fun c_2 => ?_)
            · have kc_2 : bd.toInt ≠ 0 := by have h9 := c_2; simp only [ge_iff_le, gt_iff_lt, x_lt, x_le, x_eq, ne_eq, Int32.not_lt, Int32.not_le] at h9; simp only [Int32.reduceToInt] at h9; omega
              exfalso
              omega
            · have kc_2 : bd.toInt = 0 := by have h9 := c_2; simp only [ge_iff_le, gt_iff_lt, x_lt, x_le, x_eq, ne_eq, Int32.not_lt, Int32.not_le] at h9; simp only [Int32.reduceToInt] at h9; omega
              refine lv_aload_n hx hb dX12_test_117 rfl (lv_at hl 1 rfl) ?_
              refine va_get (D := D) (ci := 11) (v := .int ws2) (C := RX12) (T := TX12) (N := 85) hx hb hts inX12 hown hK hP 0 mwd_o0 rfl 31 (by decide) fl263 (fun _ h9 => h9) rfl dX12_test_118 ?_
              refine lv_if_le (tgt := 131) hx hb dX12_test_121 (by decide) (fun c_3 => ?_) (fun c_3 => ?_)
              · have kc_3 : ws2.toInt ≤ 0 := by have h9 := c_3; simp only [ge_iff_le, gt_iff_lt, x_lt, x_le, x_eq, ne_eq, Int32.not_lt, Int32.not_le] at h9; simp only [Int32.reduceToInt] at h9; omega
                have hP : va_P D vwCl (mwd y ad zw (sI (tI (tI (sI (tI (sI (tI (sI (sI (sI (sI (sI (sI σ 2 a) 4 en) 5 bd) 6 bp) 23 np) 29 cd2) 27 fc2) 32 op) 30 fw) 31 ws2) 24 fh) 26 fn) 40 ba)) H := hP
                have hD : va_D A (mwd y ad zw (sI (tI (tI (sI (tI (sI (tI (sI (sI (sI (sI (sI (sI σ 2 a) 4 en) 5 bd) 6 bp) 23 np) 29 cd2) 27 fc2) 32 op) 30 fw) 31 ws2) 24 fh) 26 fn) 40 ba)) := hD
                obtain ⟨hPC, hOO⟩ := TS_PC (w0 := (σ.2.2.1 30)) hE5 (by omega)
                exact x_vretW (u := (a, en, bd, bp, np, cd2, fc2, op, fw, ws2, fh, fn, ba)) hx hb hr hQ (by (try dsimp only); exact ⟨⟨by omega, by omega, by omega, by omega, by omega, by omega, by omega, hh, by omega, by omega, hba, fun h9 => ⟨by omega, by omega, by omega, by omega, by omega, hPC⟩⟩, hfn⟩) hP hD hK hS dX12_test_131 hlocks
              · have kc_3 : ws2.toInt > 0 := by have h9 := c_3; simp only [ge_iff_le, gt_iff_lt, x_lt, x_le, x_eq, ne_eq, Int32.not_lt, Int32.not_le] at h9; simp only [Int32.reduceToInt] at h9; omega
                refine lv_aload_n hx hb dX12_test_124 rfl (lv_at hl 1 rfl) ?_
                refine x_callvW (va_runV (As := []) (rest := []) ⟨hx, hb, hml, hown, hts⟩ (q_drops l D y H.size ad zw (sI (tI (sI (sI (tI (tI (tI (sI (sI (sI (sI (sI (sI σ 2 a) 4 en) 5 bd) 6 bp) 23 np) 32 op) 30 fw) 24 fh) 26 fn) 40 ba) 29 cd2) 27 fc2) 31 ws2) (show 1 ≤ (ws2).toInt from by first | omega | decide) (show (ws2).toInt ≤ 800 from by first | omega | decide) (show 0 ≤ (cd2).toInt from by first | omega | decide) (show (cd2).toInt < 1200 from by first | omega | decide)) (cwV 0 hts g_q_test_0 rfl rfl rfl (by decide +kernel) ⟨Nat.le_of_ble_eq_true rfl, Nat.le_of_ble_eq_true rfl⟩) (x_preV (q := (RX12, TX12, 85)) hK hP hD (ci := 11) (q0 := 0) rfl mwd_o0) rfl rfl hl.1 rfl (lv_room (Nat.le_of_ble_eq_true rfl)) dX12_test_125 ⟨Nat.le_of_ble_eq_true rfl, Nat.le_of_ble_eq_true rfl⟩) hP hD hS hA (fun u H locs hw hP hD hS => ?_)
                obtain ⟨n_4, n_5, f_6⟩ := u
                try dsimp only at hw
                have hP : va_P D vwCl (mwd y ad zw (tI (sI (sI (sI (tI (sI (sI (tI (tI (tI (sI (sI (sI (sI (sI (sI σ 2 a) 4 en) 5 bd) 6 bp) 23 np) 32 op) 30 fw) 24 fh) 26 fn) 40 ba) 29 cd2) 27 fc2) 31 ws2) 31 n_4) 29 n_5) 27 f_6)) H := hP
                have hD : va_D A (mwd y ad zw (tI (sI (sI (sI (tI (sI (sI (tI (tI (tI (sI (sI (sI (sI (sI (sI σ 2 a) 4 en) 5 bd) 6 bp) 23 np) 32 op) 30 fw) 24 fh) 26 fn) 40 ba) 29 cd2) 27 fc2) 31 ws2) 31 n_4) 29 n_5) 27 f_6)) := hD
                replace hw : n_4.toInt = (ws2).toInt - 1 ∧ n_5.toInt = (cd2).toInt + 1 ∧ f_6 = upd (fc2) (cd2).toInt.toNat ((fw) ((ws2).toInt.toNat - 1)) := hw
                refine lv_goto (tgt := 110) hx hb dX12_test_128 (by decide) ?_
                have hP : va_P D vwCl (mwd y ad zw (sI (tI (sI (sI (tI (tI (tI (sI (sI (sI (sI (sI (sI σ 2 a) 4 en) 5 bd) 6 bp) 23 np) 32 op) 30 fw) 24 fh) 26 fn) 40 ba) 29 n_5) 27 f_6) 31 n_4)) H := hP
                have hD : va_D A (mwd y ad zw (sI (tI (sI (sI (tI (tI (tI (sI (sI (sI (sI (sI (sI σ 2 a) 4 en) 5 bd) 6 bp) 23 np) 32 op) 30 fw) 24 fh) 26 fn) 40 ba) 29 n_5) 27 f_6) 31 n_4)) := hD
                exact ih_loop2 n_5 f_6 n_4 H locs ls (by omega) (by omega) (by omega) (by obtain ⟨h7, h6, h5⟩ := hw; rw [h5, show n_5.toInt.toNat = cd2.toInt.toNat + 1 by omega, show n_4.toInt.toNat = ws2.toInt.toNat - 1 by omega]; exact TS_ao hE5 (by omega) (TS_top hE5 hN5 (by omega) (hS5 _ (by omega))) (by omega)) (by rw [show n_4.toInt.toNat = ws2.toInt.toNat - 1 by omega]; exact NK_drop hN5 (by omega) (hS5 _ (by omega))) (fun k h9 => hS5 k (by omega)) (by omega) hP hD hS (lv_sub hl [0, 1] rfl)
        exact loop2 801 cd fc ws H locs ls (by omega) (by omega) (by omega) hE4 hN4 hS4 (by omega) hP hD hS (lv_sub hl [0, 1] rfl)
      · have kc_1 : mo.toInt ≠ 0 := by have h9 := c_1; simp only [ge_iff_le, gt_iff_lt, x_lt, x_le, x_eq, ne_eq, Int32.not_lt, Int32.not_le] at h9; simp only [Int32.reduceToInt] at h9; omega
        refine lv_aload_n hx hb dX12_test_6 rfl (lv_at hl 1 rfl) ?_
        refine va_get (D := D) (ci := 11) (v := .int bd) (C := RX12) (T := TX12) (N := 85) hx hb hts inX12 hown hK hP 0 mwd_o0 rfl 5 (by decide) fl191 (fun _ h9 => h9) rfl dX12_test_7 ?_
        refine lv_if_ne (tgt := 110) hx hb dX12_test_10 (by decide) (fun c_7 => ?_) (fun c_7 => ?_)
        · have kc_7 : bd.toInt ≠ 0 := by have h9 := c_7; simp only [ge_iff_le, gt_iff_lt, x_lt, x_le, x_eq, ne_eq, Int32.not_lt, Int32.not_le] at h9; simp only [Int32.reduceToInt] at h9; omega
          exfalso
          omega
        · have kc_7 : bd.toInt = 0 := by have h9 := c_7; simp only [ge_iff_le, gt_iff_lt, x_lt, x_le, x_eq, ne_eq, Int32.not_lt, Int32.not_le] at h9; simp only [Int32.reduceToInt] at h9; omega
          obtain ⟨hes0, hnt0⟩ := hE.1 (by omega)
          refine lv_aload_n hx hb dX12_test_13 rfl (lv_at hl 1 rfl) ?_
          refine x_calliW (va_runV (As := []) (rest := []) ⟨hx, hb, hml, hown, hts⟩ (q_look2 l D y H.size ad zw (sI (tI (tI (sI (tI (sI (tI (sI (sI (sI (sI (sI (sI σ 2 a) 4 en) 5 bd) 6 bp) 23 np) 29 cd) 27 fc) 32 op) 30 fw) 31 ws) 24 fh) 26 fn) 40 ba) (show 0 ≤ (a).toInt from by first | omega | decide) (show (a).toInt ≤ ((σ.1 3)).toInt from by first | omega | decide) (show ((σ.1 3)).toInt ≤ 700 from by first | omega | decide)) (cwV 0 hts g_q_test_1 rfl rfl rfl (by decide +kernel) ⟨Nat.le_of_ble_eq_true rfl, Nat.le_of_ble_eq_true rfl⟩) (x_preV (q := (RX12, TX12, 85)) hK hP hD (ci := 11) (q0 := 0) rfl mwd_o0) rfl rfl hl.1 rfl (lv_room (Nat.le_of_ble_eq_true rfl)) dX12_test_14 ⟨Nat.le_of_ble_eq_true rfl, Nat.le_of_ble_eq_true rfl⟩) hP hD hS hA (fun r_8 u H locs hw hP hD hS => ?_)
          obtain ⟨n_9, rfl⟩ : ∃ z9, z9 = u := ⟨_, rfl⟩
          try dsimp only at hw
          have hP : va_P D vwCl (mwd y ad zw (sI (sI (tI (tI (sI (tI (sI (tI (sI (sI (sI (sI (sI (sI σ 2 a) 4 en) 5 bd) 6 bp) 23 np) 29 cd) 27 fc) 32 op) 30 fw) 31 ws) 24 fh) 26 fn) 40 ba) 2 n_9)) H := hP
          have hD : va_D A (mwd y ad zw (sI (sI (tI (tI (sI (tI (sI (tI (sI (sI (sI (sI (sI (sI σ 2 a) 4 en) 5 bd) 6 bp) 23 np) 29 cd) 27 fc) 32 op) 30 fw) 31 ws) 24 fh) 26 fn) 40 ba) 2 n_9)) := hD
          replace hw : (a).toInt ≤ n_9.toInt ∧ n_9.toInt ≤ ((σ.1 3)).toInt ∧ (r_8.toInt = -1 ∨ (n_9.toInt < ((σ.1 3)).toInt ∧ r_8 = ((σ.2.2.1 0)) (Int32.toNatClampNeg n_9))) := hw
          replace hw : a.toInt ≤ n_9.toInt ∧ n_9.toInt ≤ (σ.1 3).toInt ∧ (r_8.toInt = -1 ∨ n_9.toInt < (σ.1 3).toInt) := ⟨hw.1, hw.2.1, hw.2.2.imp id And.left⟩
          have hlk := hw
          refine lv_istore_n (lv' := [(2, .int r_8), (1, .int mo), (0, .ref (ad 1))]) hx hb dX12_test_17 rfl hl (by decide) rfl (fun ls hl => ?_)
          refine lv_iload_n hx hb dX12_test_18 rfl (lv_at hl 0 rfl) ?_
          refine lv_bipush (v := 91) hx hb dX12_test_19 (by decide) ?_
          refine lv_icmp_ne (tgt := 47) hx hb dX12_test_21 (by decide) (fun c_10 => ?_) (fun c_10 => ?_)
          · have kc_10 : r_8.toInt ≠ 91 := by have h9 := c_10; simp only [ge_iff_le, gt_iff_lt, x_lt, x_le, x_eq, ne_eq, Int32.not_lt, Int32.not_le] at h9; simp only [Int32.reduceToInt] at h9; omega
            refine lv_aload_n hx hb dX12_test_47 rfl (lv_at hl 2 rfl) ?_
            refine lv_aload_n hx hb dX12_test_48 rfl (lv_at hl 2 rfl) ?_
            refine va_get (D := D) (ci := 11) (v := .ref (ad 19)) (C := RX12) (T := TX12) (N := 85) hx hb hts inX12 hown hK hP 0 mwd_o0 rfl 19 (by decide) fl48 (fun _ h9 => h9) rfl dX12_test_49 ?_
            refine x_calliW (va_runV (As := [.ref (ad 19)]) (rest := []) ⟨hx, hb, hml, hown, hts⟩ (q_isHere l D y H.size ad zw (sI (sI (tI (tI (sI (tI (sI (tI (sI (sI (sI (sI (sI (sI σ 2 a) 4 en) 5 bd) 6 bp) 23 np) 29 cd) 27 fc) 32 op) 30 fw) 31 ws) 24 fh) 26 fn) 40 ba) 2 n_9) (ad 19) 3 12 (zw 19) (fun _ => rfl) (by decide) (by decide) (show 0 ≤ (n_9).toInt from by first | omega | decide) (show (n_9).toInt ≤ ((σ.1 3)).toInt from by first | omega | decide) (show ((σ.1 3)).toInt ≤ 700 from by first | omega | decide)) (cwV 1 hts g_q_test_2 rfl rfl rfl (by decide +kernel) ⟨Nat.le_of_ble_eq_true rfl, Nat.le_of_ble_eq_true rfl⟩) (x_preV (q := (RX12, TX12, 85)) hK hP hD (ci := 11) (q0 := 0) rfl mwd_o0) rfl rfl hl.1 rfl (lv_room (Nat.le_of_ble_eq_true rfl)) dX12_test_52 ⟨Nat.le_of_ble_eq_true rfl, Nat.le_of_ble_eq_true rfl⟩) hP hD hS hA (fun r_11 u H locs hw hP hD hS => ?_)
            obtain ⟨n_12, rfl⟩ : ∃ z9, z9 = u := ⟨_, rfl⟩
            try dsimp only at hw
            have hP : va_P D vwCl (mwd y ad zw (sI (sI (sI (tI (tI (sI (tI (sI (tI (sI (sI (sI (sI (sI (sI σ 2 a) 4 en) 5 bd) 6 bp) 23 np) 29 cd) 27 fc) 32 op) 30 fw) 31 ws) 24 fh) 26 fn) 40 ba) 2 n_9) 2 n_12)) H := hP
            have hD : va_D A (mwd y ad zw (sI (sI (sI (tI (tI (sI (tI (sI (tI (sI (sI (sI (sI (sI (sI σ 2 a) 4 en) 5 bd) 6 bp) 23 np) 29 cd) 27 fc) 32 op) 30 fw) 31 ws) 24 fh) 26 fn) 40 ba) 2 n_9) 2 n_12)) := hD
            replace hw : (n_9).toInt ≤ n_12.toInt ∧ n_12.toInt ≤ ((σ.1 3)).toInt ∧ (r_11.toInt = 0 ∨ (r_11.toInt = 1 ∧ (bd).toInt = 0 ∧ n_12.toInt + 3 ≤ ((σ.1 3)).toInt)) := hw
            replace hw := And.intro hw.1 hw.2.1
            refine lv_if_eq (tgt := 79) hx hb dX12_test_55 (by decide) (fun c_13 => ?_) (fun c_13 => ?_)
            · have kc_13 : r_11.toInt = 0 := by have h9 := c_13; simp only [ge_iff_le, gt_iff_lt, x_lt, x_le, x_eq, ne_eq, Int32.not_lt, Int32.not_le] at h9; simp only [Int32.reduceToInt] at h9; omega
              refine lv_aload_n hx hb dX12_test_79 rfl (lv_at hl 2 rfl) ?_
              refine x_callvW (va_runV (As := []) (rest := []) ⟨hx, hb, hml, hown, hts⟩ (q_fact l D y H.size ad zw (sI (sI (sI (tI (tI (sI (tI (sI (tI (sI (sI (sI (sI (sI (sI σ 2 a) 4 en) 5 bd) 6 bp) 23 np) 29 cd) 27 fc) 32 op) 30 fw) 31 ws) 24 fh) 26 fn) 40 ba) 2 n_9) 2 n_12) (show 0 ≤ (n_12).toInt from by first | omega | decide) (show (n_12).toInt ≤ ((σ.1 3)).toInt from by first | omega | decide) (show ((σ.1 3)).toInt ≤ 700 from by first | omega | decide) (show (bd).toInt = 0 from by first | omega | decide) (show 0 ≤ ((σ.1 33)).toInt from by first | omega | decide) (show ((σ.1 33)).toInt ≤ 24 from by first | omega | decide) (show 0 ≤ (op).toInt from by first | omega | decide) (show (op).toInt ≤ 8 from by first | omega | decide) (show 0 ≤ (ws).toInt from by first | omega | decide) (show 0 ≤ (cd).toInt from by first | omega | decide) (show (cd).toInt + (ws).toInt ≤ (n_12).toInt + 20 from by first | omega | decide) (show 0 ≤ (fh 4).toInt from by first | omega | decide) (show (fh 4).toInt ≤ (n_12).toInt + 20 from by first | omega | decide) (TS_lo hes0) (TS_oc hes0 ho0) hB35 hfn) (cwV 0 hts g_q_test_3 rfl rfl rfl (by decide +kernel) ⟨Nat.le_of_ble_eq_true rfl, Nat.le_of_ble_eq_true rfl⟩) (x_preV (q := (RX12, TX12, 85)) hK hP hD (ci := 11) (q0 := 0) rfl mwd_o0) rfl rfl hl.1 rfl (lv_room (Nat.le_of_ble_eq_true rfl)) dX12_test_80 ⟨Nat.le_of_ble_eq_true rfl, Nat.le_of_ble_eq_true rfl⟩) hP hD hS hA (fun u H locs hw hP hD hS => ?_)
              obtain ⟨n_14, n_15, n_16, n_17, n_18, n_19, f_20, n_21, f_22, n_23, f_24, f_25, n_26⟩ := u
              try dsimp only at hw
              have hP : va_P D vwCl (mwd y ad zw (sI (tI (tI (sI (tI (sI (tI (sI (sI (sI (sI (sI (sI (sI (sI (sI (tI (tI (sI (tI (sI (tI (sI (sI (sI (sI (sI (sI σ 2 a) 4 en) 5 bd) 6 bp) 23 np) 29 cd) 27 fc) 32 op) 30 fw) 31 ws) 24 fh) 26 fn) 40 ba) 2 n_9) 2 n_12) 2 n_14) 4 n_15) 5 n_16) 6 n_17) 23 n_18) 29 n_19) 27 f_20) 32 n_21) 30 f_22) 31 n_23) 24 f_24) 26 f_25) 40 n_26)) H := hP
              have hD : va_D A (mwd y ad zw (sI (tI (tI (sI (tI (sI (tI (sI (sI (sI (sI (sI (sI (sI (sI (sI (tI (tI (sI (tI (sI (tI (sI (sI (sI (sI (sI (sI σ 2 a) 4 en) 5 bd) 6 bp) 23 np) 29 cd) 27 fc) 32 op) 30 fw) 31 ws) 24 fh) 26 fn) 40 ba) 2 n_9) 2 n_12) 2 n_14) 4 n_15) 5 n_16) 6 n_17) 23 n_18) 29 n_19) 27 f_20) 32 n_21) 30 f_22) 31 n_23) 24 f_24) 26 f_25) 40 n_26)) := hD
              replace hw : ((n_12).toInt ≤ n_14.toInt ∧ n_14.toInt ≤ ((σ.1 3)).toInt ∧ 0 ≤ n_21.toInt ∧ n_21.toInt ≤ 8 ∧ 0 ≤ n_23.toInt ∧ (cd).toInt ≤ n_19.toInt ∧ n_19.toInt + n_23.toInt - n_14.toInt ≤ (cd).toInt + (ws).toInt - (n_12).toInt + 2 ∧ (∀ k : Nat, k ≠ 4 → f_24 k = fh k) ∧ (fh 4).toInt ≤ (f_24 4).toInt ∧ (f_24 4).toInt - n_14.toInt ≤ (fh 4).toInt - (n_12).toInt + 1 ∧ n_26 = (ba) ∧ (n_16.toInt = 0 → (n_12).toInt + 1 ≤ n_14.toInt ∧ n_19.toInt + n_23.toInt - n_14.toInt ≤ (cd).toInt + (ws).toInt - (n_12).toInt ∧ (f_24 4).toInt - n_14.toInt ≤ (fh 4).toInt - (n_12).toInt ∧ n_23.toInt = (ws).toInt ∧ n_21.toInt = (op).toInt ∧ PC (fc) f_20 (fw) f_22 ((cd).toInt.toNat) (n_19.toInt.toNat) ((ws).toInt.toNat) (1000 + (f_24 4).toInt) [false])) ∧ bI f_25 0 9999 := hw
              obtain ⟨hw, hg_27⟩ := hw
              obtain ⟨hp1, hp2, hp3, hp4, hp5, hp6, hp7, hp8, hp9, hp10, hp11, hpi⟩ := hw
              have hha : ∀ k : Nat, k ≠ 4 → f_24 k = σ.2.2.1 24 k := fun k h9 => (hp8 k h9).trans (hh k h9)
              rcases Classical.em (n_16.toInt = 0) with hbz | hbz
              · obtain ⟨hg1, hg2, hg3, hg4, hg5, hg6⟩ := hpi hbz
                clear hpi
                have hE1 : TS (σ.2.2.1 27) f_20 f_22 ((σ.1 29).toInt.toNat) (n_19.toInt.toNat) (n_23.toInt.toNat) 1 (1000 + (f_24 4).toInt) n_21.toInt (σ.1 32).toInt := by rw [show n_23.toInt.toNat = ws.toInt.toNat by omega, show n_21.toInt = op.toInt by omega]; exact TS_fact hes0 hg6 (by omega)
                have hN1 : NT f_22 n_23.toInt.toNat := by rw [show n_23.toInt.toNat = ws.toInt.toNat by omega]; exact NT_congr hnt0 hg6.2.2.2.1
                clear hg6
                refine lv_aload_n hx hb dX12_test_83 rfl (lv_at hl 2 rfl) ?_
                refine x_callvW (va_runV (As := []) (rest := []) ⟨hx, hb, hml, hown, hts⟩ (q_dropsNots l D y H.size ad zw (sI (tI (tI (sI (tI (sI (tI (sI (sI (sI (sI (sI (sI (sI (sI (sI (tI (tI (sI (tI (sI (tI (sI (sI (sI (sI (sI (sI σ 2 a) 4 en) 5 bd) 6 bp) 23 np) 29 cd) 27 fc) 32 op) 30 fw) 31 ws) 24 fh) 26 fn) 40 ba) 2 n_9) 2 n_12) 2 n_14) 4 n_15) 5 n_16) 6 n_17) 23 n_18) 29 n_19) 27 f_20) 32 n_21) 30 f_22) 31 n_23) 24 f_24) 26 f_25) 40 n_26) (σ.2.2.1 27) ((σ.1 29).toInt.toNat) (1000 + (f_24 4).toInt) ((σ.1 32).toInt) (show (n_16).toInt = 0 from by first | omega | decide) (by first | omega | decide) (show 0 ≤ (n_21).toInt from by first | omega | decide) (show (n_21).toInt ≤ 8 from by first | omega | decide) (show 0 ≤ (n_23).toInt from by first | omega | decide) (show (n_23).toInt ≤ 800 from by first | omega | decide) (show 0 ≤ (n_19).toInt from by first | omega | decide) (show (n_19).toInt + (n_23).toInt < 1200 from by first | omega | decide) (by first | omega | decide) hE1) (cwV 0 hts g_q_test_4 rfl rfl rfl (by decide +kernel) ⟨Nat.le_of_ble_eq_true rfl, Nat.le_of_ble_eq_true rfl⟩) (x_preV (q := (RX12, TX12, 85)) hK hP hD (ci := 11) (q0 := 0) rfl mwd_o0) rfl rfl hl.1 rfl (lv_room (Nat.le_of_ble_eq_true rfl)) dX12_test_84 ⟨Nat.le_of_ble_eq_true rfl, Nat.le_of_ble_eq_true rfl⟩) hP hD hS hA (fun u H locs hw hP hD hS => ?_)
                obtain ⟨n_28, n_29, f_30, n_31⟩ := u
                try dsimp only at hw
                have hP : va_P D vwCl (mwd y ad zw (sI (tI (sI (sI (sI (tI (tI (sI (tI (sI (tI (sI (sI (sI (sI (sI (sI (sI (sI (sI (tI (tI (sI (tI (sI (tI (sI (sI (sI (sI (sI (sI σ 2 a) 4 en) 5 bd) 6 bp) 23 np) 29 cd) 27 fc) 32 op) 30 fw) 31 ws) 24 fh) 26 fn) 40 ba) 2 n_9) 2 n_12) 2 n_14) 4 n_15) 5 n_16) 6 n_17) 23 n_18) 29 n_19) 27 f_20) 32 n_21) 30 f_22) 31 n_23) 24 f_24) 26 f_25) 40 n_26) 31 n_28) 29 n_29) 27 f_30) 32 n_31)) H := hP
                have hD : va_D A (mwd y ad zw (sI (tI (sI (sI (sI (tI (tI (sI (tI (sI (tI (sI (sI (sI (sI (sI (sI (sI (sI (sI (tI (tI (sI (tI (sI (tI (sI (sI (sI (sI (sI (sI σ 2 a) 4 en) 5 bd) 6 bp) 23 np) 29 cd) 27 fc) 32 op) 30 fw) 31 ws) 24 fh) 26 fn) 40 ba) 2 n_9) 2 n_12) 2 n_14) 4 n_15) 5 n_16) 6 n_17) 23 n_18) 29 n_19) 27 f_20) 32 n_21) 30 f_22) 31 n_23) 24 f_24) 26 f_25) 40 n_26) 31 n_28) 29 n_29) 27 f_30) 32 n_31)) := hD
                replace hw : 0 ≤ n_31.toInt ∧ n_31.toInt ≤ 8 ∧ 0 ≤ n_28.toInt ∧ n_28.toInt ≤ (n_23).toInt ∧ (n_19).toInt ≤ n_29.toInt ∧ n_29.toInt + n_28.toInt = (n_19).toInt + (n_23).toInt ∧ (n_28.toInt = 0 ∨ ((f_22) (n_28.toInt.toNat - 1)).toInt ≠ 16) ∧ TS (σ.2.2.1 27) f_30 (f_22) ((σ.1 29).toInt.toNat) n_29.toInt.toNat n_28.toInt.toNat 1 (1000 + (f_24 4).toInt) n_31.toInt (σ.1 32).toInt := hw
                obtain ⟨hn1, hn2, hn3, hn4, hn5, hn6, hn7, hE2⟩ := hw
                have hN2 : NK f_22 n_28.toInt.toNat := ⟨NT_low hN1 (by omega), hn7.imp (fun h9 => by omega) id⟩
                clear hn7
                refine lv_aload_n hx hb dX12_test_87 rfl (lv_at hl 2 rfl) ?_
                refine va_get (D := D) (ci := 11) (v := .int n_16) (C := RX12) (T := TX12) (N := 85) hx hb hts inX12 hown hK hP 0 mwd_o0 rfl 5 (by decide) fl191 (fun _ h9 => h9) rfl dX12_test_88 ?_
                refine lv_if_ne (tgt := 105) hx hb dX12_test_91 (by decide) (fun c_32 => ?_) (fun c_32 => ?_)
                · have kc_32 : n_16.toInt ≠ 0 := by have h9 := c_32; simp only [ge_iff_le, gt_iff_lt, x_lt, x_le, x_eq, ne_eq, Int32.not_lt, Int32.not_le] at h9; simp only [Int32.reduceToInt] at h9; omega
                  exfalso
                  omega
                · have kc_32 : n_16.toInt = 0 := by have h9 := c_32; simp only [ge_iff_le, gt_iff_lt, x_lt, x_le, x_eq, ne_eq, Int32.not_lt, Int32.not_le] at h9; simp only [Int32.reduceToInt] at h9; omega
                  refine lv_aload_n hx hb dX12_test_94 rfl (lv_at hl 2 rfl) ?_
                  refine x_calliW (va_runV (As := []) (rest := []) ⟨hx, hb, hml, hown, hts⟩ (q_goesOnTest l D y H.size ad zw (sI (tI (sI (sI (sI (tI (tI (sI (tI (sI (tI (sI (sI (sI (sI (sI (sI (sI (sI (sI (tI (tI (sI (tI (sI (tI (sI (sI (sI (sI (sI (sI σ 2 a) 4 en) 5 bd) 6 bp) 23 np) 29 cd) 27 fc) 32 op) 30 fw) 31 ws) 24 fh) 26 fn) 40 ba) 2 n_9) 2 n_12) 2 n_14) 4 n_15) 5 n_16) 6 n_17) 23 n_18) 29 n_19) 27 f_20) 32 n_21) 30 f_22) 31 n_23) 24 f_24) 26 f_25) 40 n_26) 31 n_28) 29 n_29) 27 f_30) 32 n_31) (σ.2.2.1 27) ((σ.1 29).toInt.toNat) (1000 + (f_24 4).toInt) ((σ.1 32).toInt) (show 0 ≤ (n_14).toInt from by first | omega | decide) (show (n_14).toInt ≤ ((σ.1 3)).toInt from by first | omega | decide) (show ((σ.1 3)).toInt ≤ 700 from by first | omega | decide) (show (n_16).toInt = 0 from by first | omega | decide) (by first | omega | decide) (show 0 ≤ (n_31).toInt from by first | omega | decide) (show (n_31).toInt ≤ 8 from by first | omega | decide) (show 0 ≤ (n_28).toInt from by first | omega | decide) (show 0 ≤ (n_29).toInt from by first | omega | decide) (show (n_29).toInt + (n_28).toInt ≤ (n_14).toInt + 20 from by first | omega | decide) (by first | omega | decide) hE2 hN2) (cwV 0 hts g_q_test_5 rfl rfl rfl (by decide +kernel) ⟨Nat.le_of_ble_eq_true rfl, Nat.le_of_ble_eq_true rfl⟩) (x_preV (q := (RX12, TX12, 85)) hK hP hD (ci := 11) (q0 := 0) rfl mwd_o0) rfl rfl hl.1 rfl (lv_room (Nat.le_of_ble_eq_true rfl)) dX12_test_95 ⟨Nat.le_of_ble_eq_true rfl, Nat.le_of_ble_eq_true rfl⟩) hP hD hS hA (fun r_33 u H locs hw hP hD hS => ?_)
                  obtain ⟨n_34, n_35, n_36, n_37, n_38, f_39, n_40, f_41, n_42⟩ := u
                  try dsimp only at hw
                  have hP : va_P D vwCl (mwd y ad zw (sI (tI (sI (tI (sI (sI (sI (sI (sI (sI (tI (sI (sI (sI (tI (tI (sI (tI (sI (tI (sI (sI (sI (sI (sI (sI (sI (sI (sI (tI (tI (sI (tI (sI (tI (sI (sI (sI (sI (sI (sI σ 2 a) 4 en) 5 bd) 6 bp) 23 np) 29 cd) 27 fc) 32 op) 30 fw) 31 ws) 24 fh) 26 fn) 40 ba) 2 n_9) 2 n_12) 2 n_14) 4 n_15) 5 n_16) 6 n_17) 23 n_18) 29 n_19) 27 f_20) 32 n_21) 30 f_22) 31 n_23) 24 f_24) 26 f_25) 40 n_26) 31 n_28) 29 n_29) 27 f_30) 32 n_31) 2 n_34) 4 n_35) 5 n_36) 6 n_37) 29 n_38) 27 f_39) 32 n_40) 30 f_41) 31 n_42)) H := hP
                  have hD : va_D A (mwd y ad zw (sI (tI (sI (tI (sI (sI (sI (sI (sI (sI (tI (sI (sI (sI (tI (tI (sI (tI (sI (tI (sI (sI (sI (sI (sI (sI (sI (sI (sI (tI (tI (sI (tI (sI (tI (sI (sI (sI (sI (sI (sI σ 2 a) 4 en) 5 bd) 6 bp) 23 np) 29 cd) 27 fc) 32 op) 30 fw) 31 ws) 24 fh) 26 fn) 40 ba) 2 n_9) 2 n_12) 2 n_14) 4 n_15) 5 n_16) 6 n_17) 23 n_18) 29 n_19) 27 f_20) 32 n_21) 30 f_22) 31 n_23) 24 f_24) 26 f_25) 40 n_26) 31 n_28) 29 n_29) 27 f_30) 32 n_31) 2 n_34) 4 n_35) 5 n_36) 6 n_37) 29 n_38) 27 f_39) 32 n_40) 30 f_41) 31 n_42)) := hD
                  replace hw : (n_14).toInt ≤ n_34.toInt ∧ n_34.toInt ≤ ((σ.1 3)).toInt ∧ 0 ≤ n_40.toInt ∧ n_40.toInt ≤ 8 ∧ 0 ≤ n_42.toInt ∧ (n_29).toInt ≤ n_38.toInt ∧ n_38.toInt + n_42.toInt - n_34.toInt ≤ ((n_29).toInt + (n_28).toInt - (n_14).toInt) ∧ (r_33.toInt = 0 ∨ r_33.toInt = 1) ∧ (n_36.toInt = 0 → XE (r_33.toInt = 1) ((n_14).toInt + 1 ≤ n_34.toInt ∧ TS (σ.2.2.1 27) f_39 f_41 ((σ.1 29).toInt.toNat) n_38.toInt.toNat n_42.toInt.toNat 0 (1000 + (f_24 4).toInt) n_40.toInt (σ.1 32).toInt ∧ NT f_41 n_42.toInt.toNat) ∧ XE (r_33.toInt = 0) (TS (σ.2.2.1 27) f_39 f_41 ((σ.1 29).toInt.toNat) n_38.toInt.toNat n_42.toInt.toNat 1 (1000 + (f_24 4).toInt) n_40.toInt (σ.1 32).toInt ∧ NK f_41 n_42.toInt.toNat ∧ ∀ k : Nat, k < n_42.toInt.toNat → (f_41 k).toInt ≠ 30)) := hw
                  obtain ⟨hr1, hr2, hr3, hr4, hr5, hr6, hr7, hr8, hri⟩ := hw
                  rcases Classical.em (n_36.toInt = 0) with hbz2 | hbz2
                  · rcases hr8 with hr8 | hr8
                    · have hes9 := (hri hbz2).2 hr8
                      clear hri
                      refine lv_if_eq (tgt := 105) hx hb dX12_test_98 (by decide) (fun c_43 => ?_) (fun c_43 => ?_)
                      · have kc_43 : r_33.toInt = 0 := by have h9 := c_43; simp only [ge_iff_le, gt_iff_lt, x_lt, x_le, x_eq, ne_eq, Int32.not_lt, Int32.not_le] at h9; simp only [Int32.reduceToInt] at h9; omega
                        refine lv_iconst (v := 0) hx hb dX12_test_105 (by decide) ?_
                        refine lv_istore_n (lv' := [(1, .int 0), (2, .int r_8), (0, .ref (ad 1))]) hx hb dX12_test_106 rfl hl (by decide) rfl (fun ls hl => ?_)
                        refine lv_goto (tgt := 2) hx hb dX12_test_107 (by decide) ?_
                        have l10 : (1 : Int32).toInt = 1 := rfl
                        have l00 : (0 : Int32).toInt = 0 := rfl
                        have hP : va_P D vwCl (mwd y ad zw (sI (tI (tI (sI (tI (sI (tI (sI (sI (sI (sI (sI (sI σ 2 n_34) 4 n_35) 5 n_36) 6 n_37) 23 n_18) 29 n_38) 27 f_39) 32 n_40) 30 f_41) 31 n_42) 24 f_24) 26 f_25) 40 n_26)) H := hP
                        have hD : va_D A (mwd y ad zw (sI (tI (tI (sI (tI (sI (tI (sI (sI (sI (sI (sI (sI σ 2 n_34) 4 n_35) 5 n_36) 6 n_37) 23 n_18) 29 n_38) 27 f_39) 32 n_40) 30 f_41) 31 n_42) 24 f_24) 26 f_25) 40 n_26)) := hD
                        exact ih_loop 0 n_34 n_35 n_36 n_37 n_18 n_38 f_39 n_40 f_41 n_42 f_24 f_25 n_26 H locs ls (by omega) (by omega) (by omega) (by omega) (by omega) (by omega) ⟨by omega, by omega, by omega, by omega⟩ (by omega) hha ⟨by omega, by omega⟩ (hp11.trans hba) ⟨fun h8 => absurd h8 (by decide), fun _ => hes9⟩ hg_27 (by omega) hP hD hS (lv_sub hl [0, 2] rfl)
                      · have kc_43 : r_33.toInt ≠ 0 := by have h9 := c_43; simp only [ge_iff_le, gt_iff_lt, x_lt, x_le, x_eq, ne_eq, Int32.not_lt, Int32.not_le] at h9; simp only [Int32.reduceToInt] at h9; omega
                        exfalso
                        omega
                    · obtain ⟨hr9, hes9⟩ := (hri hbz2).1 hr8
                      clear hri
                      refine lv_if_eq (tgt := 105) hx hb dX12_test_98 (by decide) (fun c_44 => ?_) (fun c_44 => ?_)
                      · have kc_44 : r_33.toInt = 0 := by have h9 := c_44; simp only [ge_iff_le, gt_iff_lt, x_lt, x_le, x_eq, ne_eq, Int32.not_lt, Int32.not_le] at h9; simp only [Int32.reduceToInt] at h9; omega
                        exfalso
                        omega
                      · have kc_44 : r_33.toInt ≠ 0 := by have h9 := c_44; simp only [ge_iff_le, gt_iff_lt, x_lt, x_le, x_eq, ne_eq, Int32.not_lt, Int32.not_le] at h9; simp only [Int32.reduceToInt] at h9; omega
                        refine lv_iconst (v := 1) hx hb dX12_test_101 (by decide) ?_
                        refine lv_goto (tgt := 106) hx hb dX12_test_102 (by decide) ?_
                        refine lv_istore_n (lv' := [(1, .int 1), (2, .int r_8), (0, .ref (ad 1))]) hx hb dX12_test_106 rfl hl (by decide) rfl (fun ls hl => ?_)
                        refine lv_goto (tgt := 2) hx hb dX12_test_107 (by decide) ?_
                        have l10 : (1 : Int32).toInt = 1 := rfl
                        have l00 : (0 : Int32).toInt = 0 := rfl
                        have hP : va_P D vwCl (mwd y ad zw (sI (tI (tI (sI (tI (sI (tI (sI (sI (sI (sI (sI (sI σ 2 n_34) 4 n_35) 5 n_36) 6 n_37) 23 n_18) 29 n_38) 27 f_39) 32 n_40) 30 f_41) 31 n_42) 24 f_24) 26 f_25) 40 n_26)) H := hP
                        have hD : va_D A (mwd y ad zw (sI (tI (tI (sI (tI (sI (tI (sI (sI (sI (sI (sI (sI σ 2 n_34) 4 n_35) 5 n_36) 6 n_37) 23 n_18) 29 n_38) 27 f_39) 32 n_40) 30 f_41) 31 n_42) 24 f_24) 26 f_25) 40 n_26)) := hD
                        exact ih_loop 1 n_34 n_35 n_36 n_37 n_18 n_38 f_39 n_40 f_41 n_42 f_24 f_25 n_26 H locs ls (by omega) (by omega) (by omega) (by omega) (by omega) (by omega) ⟨by omega, by omega, by omega, by omega⟩ (by omega) hha ⟨by omega, by omega⟩ (hp11.trans hba) ⟨fun _ => hes9, fun h8 => absurd h8 (by first | decide | omega)⟩ hg_27 (by omega) hP hD hS (lv_sub hl [0, 2] rfl)
                  · clear hri
                    refine lv_if_eq (tgt := 105) hx hb dX12_test_98 (by decide) (fun c_45 => ?_) (fun c_45 => ?_)
                    · have kc_45 : r_33.toInt = 0 := by have h9 := c_45; simp only [ge_iff_le, gt_iff_lt, x_lt, x_le, x_eq, ne_eq, Int32.not_lt, Int32.not_le] at h9; simp only [Int32.reduceToInt] at h9; omega
                      refine lv_iconst (v := 0) hx hb dX12_test_105 (by decide) ?_
                      refine lv_istore_n (lv' := [(1, .int 0), (2, .int r_8), (0, .ref (ad 1))]) hx hb dX12_test_106 rfl hl (by decide) rfl (fun ls hl => ?_)
                      refine lv_goto (tgt := 2) hx hb dX12_test_107 (by decide) ?_
                      refine lv_iload_n hx hb dX12_test_2 rfl (lv_at hl 0 rfl) ?_
                      refine lv_if_eq (tgt := 110) hx hb dX12_test_3 (by decide) (fun c_46 => ?_) (fun c_46 => ?_)
                      · refine lv_aload_n hx hb dX12_test_110 rfl (lv_at hl 2 rfl) ?_
                        refine va_get (D := D) (ci := 11) (v := .int n_36) (C := RX12) (T := TX12) (N := 85) hx hb hts inX12 hown hK hP 0 mwd_o0 rfl 5 (by decide) fl191 (fun _ h9 => h9) rfl dX12_test_111 ?_
                        refine lv_if_ne (tgt := 131) hx hb dX12_test_114 (by decide) (fun c_47 => ?_) (fun c_47 => ?_)
                        · have kc_47 : n_36.toInt ≠ 0 := by have h9 := c_47; simp only [ge_iff_le, gt_iff_lt, x_lt, x_le, x_eq, ne_eq, Int32.not_lt, Int32.not_le] at h9; simp only [Int32.reduceToInt] at h9; omega
                          have hP : va_P D vwCl (mwd y ad zw (sI (tI (tI (sI (tI (sI (tI (sI (sI (sI (sI (sI (sI σ 2 n_34) 4 n_35) 5 n_36) 6 n_37) 23 n_18) 29 n_38) 27 f_39) 32 n_40) 30 f_41) 31 n_42) 24 f_24) 26 f_25) 40 n_26)) H := hP
                          have hD : va_D A (mwd y ad zw (sI (tI (tI (sI (tI (sI (tI (sI (sI (sI (sI (sI (sI σ 2 n_34) 4 n_35) 5 n_36) 6 n_37) 23 n_18) 29 n_38) 27 f_39) 32 n_40) 30 f_41) 31 n_42) 24 f_24) 26 f_25) 40 n_26)) := hD
                          exact x_vretW (u := (n_34, n_35, n_36, n_37, n_18, n_38, f_39, n_40, f_41, n_42, f_24, f_25, n_26)) hx hb hr hQ (by (try dsimp only); exact ⟨⟨by omega, by omega, by omega, by omega, by omega, by omega, by omega, hha, by omega, by omega, (hp11.trans hba), fun h9 => absurd h9 (by omega)⟩, hg_27⟩) hP hD hK hS dX12_test_131 hlocks
                        · have kc_47 : n_36.toInt = 0 := by have h9 := c_47; simp only [ge_iff_le, gt_iff_lt, x_lt, x_le, x_eq, ne_eq, Int32.not_lt, Int32.not_le] at h9; simp only [Int32.reduceToInt] at h9; omega
                          exfalso
                          omega
                      · exact absurd (by decide) c_46
                    · have kc_45 : r_33.toInt ≠ 0 := by have h9 := c_45; simp only [ge_iff_le, gt_iff_lt, x_lt, x_le, x_eq, ne_eq, Int32.not_lt, Int32.not_le] at h9; simp only [Int32.reduceToInt] at h9; omega
                      refine lv_iconst (v := 1) hx hb dX12_test_101 (by decide) ?_
                      refine lv_goto (tgt := 106) hx hb dX12_test_102 (by decide) ?_
                      refine lv_istore_n (lv' := [(1, .int 1), (2, .int r_8), (0, .ref (ad 1))]) hx hb dX12_test_106 rfl hl (by decide) rfl (fun ls hl => ?_)
                      refine lv_goto (tgt := 2) hx hb dX12_test_107 (by decide) ?_
                      refine lv_iload_n hx hb dX12_test_2 rfl (lv_at hl 0 rfl) ?_
                      refine lv_if_eq (tgt := 110) hx hb dX12_test_3 (by decide) (fun c_48 => ?_) (fun c_48 => ?_)
                      · exact absurd c_48 (by decide)
                      · refine lv_aload_n hx hb dX12_test_6 rfl (lv_at hl 2 rfl) ?_
                        refine va_get (D := D) (ci := 11) (v := .int n_36) (C := RX12) (T := TX12) (N := 85) hx hb hts inX12 hown hK hP 0 mwd_o0 rfl 5 (by decide) fl191 (fun _ h9 => h9) rfl dX12_test_7 ?_
                        refine lv_if_ne (tgt := 110) hx hb dX12_test_10 (by decide) (fun c_49 => ?_) (fun c_49 => ?_)
                        · have kc_49 : n_36.toInt ≠ 0 := by have h9 := c_49; simp only [ge_iff_le, gt_iff_lt, x_lt, x_le, x_eq, ne_eq, Int32.not_lt, Int32.not_le] at h9; simp only [Int32.reduceToInt] at h9; omega
                          refine lv_aload_n hx hb dX12_test_110 rfl (lv_at hl 2 rfl) ?_
                          refine va_get (D := D) (ci := 11) (v := .int n_36) (C := RX12) (T := TX12) (N := 85) hx hb hts inX12 hown hK hP 0 mwd_o0 rfl 5 (by decide) fl191 (fun _ h9 => h9) rfl dX12_test_111 ?_
                          refine lv_if_ne (tgt := 131) hx hb dX12_test_114 (by decide) (fun c_50 => ?_) (fun c_50 => ?_)
                          · have kc_50 : n_36.toInt ≠ 0 := by have h9 := c_50; simp only [ge_iff_le, gt_iff_lt, x_lt, x_le, x_eq, ne_eq, Int32.not_lt, Int32.not_le] at h9; simp only [Int32.reduceToInt] at h9; omega
                            have hP : va_P D vwCl (mwd y ad zw (sI (tI (tI (sI (tI (sI (tI (sI (sI (sI (sI (sI (sI σ 2 n_34) 4 n_35) 5 n_36) 6 n_37) 23 n_18) 29 n_38) 27 f_39) 32 n_40) 30 f_41) 31 n_42) 24 f_24) 26 f_25) 40 n_26)) H := hP
                            have hD : va_D A (mwd y ad zw (sI (tI (tI (sI (tI (sI (tI (sI (sI (sI (sI (sI (sI σ 2 n_34) 4 n_35) 5 n_36) 6 n_37) 23 n_18) 29 n_38) 27 f_39) 32 n_40) 30 f_41) 31 n_42) 24 f_24) 26 f_25) 40 n_26)) := hD
                            exact x_vretW (u := (n_34, n_35, n_36, n_37, n_18, n_38, f_39, n_40, f_41, n_42, f_24, f_25, n_26)) hx hb hr hQ (by (try dsimp only); exact ⟨⟨by omega, by omega, by omega, by omega, by omega, by omega, by omega, hha, by omega, by omega, (hp11.trans hba), fun h9 => absurd h9 (by omega)⟩, hg_27⟩) hP hD hK hS dX12_test_131 hlocks
                          · have kc_50 : n_36.toInt = 0 := by have h9 := c_50; simp only [ge_iff_le, gt_iff_lt, x_lt, x_le, x_eq, ne_eq, Int32.not_lt, Int32.not_le] at h9; simp only [Int32.reduceToInt] at h9; omega
                            exfalso
                            omega
                        · have kc_49 : n_36.toInt = 0 := by have h9 := c_49; simp only [ge_iff_le, gt_iff_lt, x_lt, x_le, x_eq, ne_eq, Int32.not_lt, Int32.not_le] at h9; simp only [Int32.reduceToInt] at h9; omega
                          exfalso
                          omega
              · clear hpi
                refine lv_aload_n hx hb dX12_test_83 rfl (lv_at hl 2 rfl) ?_
                refine x_callvW (va_runV (As := []) (rest := []) ⟨hx, hb, hml, hown, hts⟩ (q_dropsNotsB l D y H.size ad zw (sI (tI (tI (sI (tI (sI (tI (sI (sI (sI (sI (sI (sI (sI (sI (sI (tI (tI (sI (tI (sI (tI (sI (sI (sI (sI (sI (sI σ 2 a) 4 en) 5 bd) 6 bp) 23 np) 29 cd) 27 fc) 32 op) 30 fw) 31 ws) 24 fh) 26 fn) 40 ba) 2 n_9) 2 n_12) 2 n_14) 4 n_15) 5 n_16) 6 n_17) 23 n_18) 29 n_19) 27 f_20) 32 n_21) 30 f_22) 31 n_23) 24 f_24) 26 f_25) 40 n_26) (show (n_16).toInt ≠ 0 from by first | omega | decide)) (cwV 0 hts g_q_test_6 rfl rfl rfl (by decide +kernel) ⟨Nat.le_of_ble_eq_true rfl, Nat.le_of_ble_eq_true rfl⟩) (x_preV (q := (RX12, TX12, 85)) hK hP hD (ci := 11) (q0 := 0) rfl mwd_o0) rfl rfl hl.1 rfl (lv_room (Nat.le_of_ble_eq_true rfl)) dX12_test_84 ⟨Nat.le_of_ble_eq_true rfl, Nat.le_of_ble_eq_true rfl⟩) hP hD hS hA (fun u H locs hw hP hD hS => ?_)
                try dsimp only at hw
                have hP : va_P D vwCl (mwd y ad zw (sI (tI (tI (sI (tI (sI (tI (sI (sI (sI (sI (sI (sI (sI (sI (sI (tI (tI (sI (tI (sI (tI (sI (sI (sI (sI (sI (sI σ 2 a) 4 en) 5 bd) 6 bp) 23 np) 29 cd) 27 fc) 32 op) 30 fw) 31 ws) 24 fh) 26 fn) 40 ba) 2 n_9) 2 n_12) 2 n_14) 4 n_15) 5 n_16) 6 n_17) 23 n_18) 29 n_19) 27 f_20) 32 n_21) 30 f_22) 31 n_23) 24 f_24) 26 f_25) 40 n_26)) H := hP
                have hD : va_D A (mwd y ad zw (sI (tI (tI (sI (tI (sI (tI (sI (sI (sI (sI (sI (sI (sI (sI (sI (tI (tI (sI (tI (sI (tI (sI (sI (sI (sI (sI (sI σ 2 a) 4 en) 5 bd) 6 bp) 23 np) 29 cd) 27 fc) 32 op) 30 fw) 31 ws) 24 fh) 26 fn) 40 ba) 2 n_9) 2 n_12) 2 n_14) 4 n_15) 5 n_16) 6 n_17) 23 n_18) 29 n_19) 27 f_20) 32 n_21) 30 f_22) 31 n_23) 24 f_24) 26 f_25) 40 n_26)) := hD
                clear hw
                refine lv_aload_n hx hb dX12_test_87 rfl (lv_at hl 2 rfl) ?_
                refine va_get (D := D) (ci := 11) (v := .int n_16) (C := RX12) (T := TX12) (N := 85) hx hb hts inX12 hown hK hP 0 mwd_o0 rfl 5 (by decide) fl191 (fun _ h9 => h9) rfl dX12_test_88 ?_
                refine lv_if_ne (tgt := 105) hx hb dX12_test_91 (by decide) (fun c_51 => ?_) (fun c_51 => ?_)
                · have kc_51 : n_16.toInt ≠ 0 := by have h9 := c_51; simp only [ge_iff_le, gt_iff_lt, x_lt, x_le, x_eq, ne_eq, Int32.not_lt, Int32.not_le] at h9; simp only [Int32.reduceToInt] at h9; omega
                  refine lv_iconst (v := 0) hx hb dX12_test_105 (by decide) ?_
                  refine lv_istore_n (lv' := [(1, .int 0), (2, .int r_8), (0, .ref (ad 1))]) hx hb dX12_test_106 rfl hl (by decide) rfl (fun ls hl => ?_)
                  refine lv_goto (tgt := 2) hx hb dX12_test_107 (by decide) ?_
                  refine lv_iload_n hx hb dX12_test_2 rfl (lv_at hl 0 rfl) ?_
                  refine lv_if_eq (tgt := 110) hx hb dX12_test_3 (by decide) (fun c_52 => ?_) (fun c_52 => ?_)
                  · refine lv_aload_n hx hb dX12_test_110 rfl (lv_at hl 2 rfl) ?_
                    refine va_get (D := D) (ci := 11) (v := .int n_16) (C := RX12) (T := TX12) (N := 85) hx hb hts inX12 hown hK hP 0 mwd_o0 rfl 5 (by decide) fl191 (fun _ h9 => h9) rfl dX12_test_111 ?_
                    refine lv_if_ne (tgt := 131) hx hb dX12_test_114 (by decide) (fun c_53 => ?_) (fun c_53 => ?_)
                    · have kc_53 : n_16.toInt ≠ 0 := by have h9 := c_53; simp only [ge_iff_le, gt_iff_lt, x_lt, x_le, x_eq, ne_eq, Int32.not_lt, Int32.not_le] at h9; simp only [Int32.reduceToInt] at h9; omega
                      have hP : va_P D vwCl (mwd y ad zw (sI (tI (tI (sI (tI (sI (tI (sI (sI (sI (sI (sI (sI σ 2 n_14) 4 n_15) 5 n_16) 6 n_17) 23 n_18) 29 n_19) 27 f_20) 32 n_21) 30 f_22) 31 n_23) 24 f_24) 26 f_25) 40 n_26)) H := hP
                      have hD : va_D A (mwd y ad zw (sI (tI (tI (sI (tI (sI (tI (sI (sI (sI (sI (sI (sI σ 2 n_14) 4 n_15) 5 n_16) 6 n_17) 23 n_18) 29 n_19) 27 f_20) 32 n_21) 30 f_22) 31 n_23) 24 f_24) 26 f_25) 40 n_26)) := hD
                      exact x_vretW (u := (n_14, n_15, n_16, n_17, n_18, n_19, f_20, n_21, f_22, n_23, f_24, f_25, n_26)) hx hb hr hQ (by (try dsimp only); exact ⟨⟨by omega, by omega, by omega, by omega, by omega, by omega, by omega, hha, by omega, by omega, (hp11.trans hba), fun h9 => absurd h9 (by omega)⟩, hg_27⟩) hP hD hK hS dX12_test_131 hlocks
                    · have kc_53 : n_16.toInt = 0 := by have h9 := c_53; simp only [ge_iff_le, gt_iff_lt, x_lt, x_le, x_eq, ne_eq, Int32.not_lt, Int32.not_le] at h9; simp only [Int32.reduceToInt] at h9; omega
                      exfalso
                      omega
                  · exact absurd (by decide) c_52
                · have kc_51 : n_16.toInt = 0 := by have h9 := c_51; simp only [ge_iff_le, gt_iff_lt, x_lt, x_le, x_eq, ne_eq, Int32.not_lt, Int32.not_le] at h9; simp only [Int32.reduceToInt] at h9; omega
                  exfalso
                  omega
            · have kc_13 : r_11.toInt ≠ 0 := by have h9 := c_13; simp only [ge_iff_le, gt_iff_lt, x_lt, x_le, x_eq, ne_eq, Int32.not_lt, Int32.not_le] at h9; simp only [Int32.reduceToInt] at h9; omega
              refine lv_aload_n hx hb dX12_test_58 rfl (lv_at hl 2 rfl) ?_
              refine lv_bipush (v := 16) hx hb dX12_test_59 (by decide) ?_
              refine lv_aload_n hx hb dX12_test_61 rfl (lv_at hl 2 rfl) ?_
              refine va_get (D := D) (ci := 11) (v := .int n_12) (C := RX12) (T := TX12) (N := 85) hx hb hts inX12 hown hK hP 0 mwd_o0 rfl 2 (by decide) fl197 (fun _ h9 => h9) rfl dX12_test_62 ?_
              refine x_callvW (va_runV (As := [.int 16, .int n_12]) (rest := []) ⟨hx, hb, hml, hown, hts⟩ (q_opensOne l D y H.size ad zw (sI (sI (sI (tI (tI (sI (tI (sI (tI (sI (sI (sI (sI (sI (sI σ 2 a) 4 en) 5 bd) 6 bp) 23 np) 29 cd) 27 fc) 32 op) 30 fw) 31 ws) 24 fh) 26 fn) 40 ba) 2 n_9) 2 n_12) 16 n_12 (show 0 ≤ (op).toInt from by first | omega | decide) (show (op).toInt ≤ 8 from by first | omega | decide) (show 0 ≤ (ws).toInt from by first | omega | decide) (show (ws).toInt < 800 from by first | omega | decide)) (cwV 2 hts g_q_test_7 rfl rfl rfl (by decide +kernel) ⟨Nat.le_of_ble_eq_true rfl, Nat.le_of_ble_eq_true rfl⟩) (x_preV (q := (RX12, TX12, 85)) hK hP hD (ci := 11) (q0 := 0) rfl mwd_o0) rfl rfl hl.1 rfl (lv_room (Nat.le_of_ble_eq_true rfl)) dX12_test_65 ⟨Nat.le_of_ble_eq_true rfl, Nat.le_of_ble_eq_true rfl⟩) hP hD hS hA (fun u H locs hw hP hD hS => ?_)
              obtain ⟨n_54, n_55, n_56, f_57, n_58⟩ := u
              try dsimp only at hw
              have hP : va_P D vwCl (mwd y ad zw (sI (tI (sI (sI (sI (sI (sI (sI (tI (tI (sI (tI (sI (tI (sI (sI (sI (sI (sI (sI σ 2 a) 4 en) 5 bd) 6 bp) 23 np) 29 cd) 27 fc) 32 op) 30 fw) 31 ws) 24 fh) 26 fn) 40 ba) 2 n_9) 2 n_12) 5 n_54) 6 n_55) 32 n_56) 30 f_57) 31 n_58)) H := hP
              have hD : va_D A (mwd y ad zw (sI (tI (sI (sI (sI (sI (sI (sI (tI (tI (sI (tI (sI (tI (sI (sI (sI (sI (sI (sI σ 2 a) 4 en) 5 bd) 6 bp) 23 np) 29 cd) 27 fc) 32 op) 30 fw) 31 ws) 24 fh) 26 fn) 40 ba) 2 n_9) 2 n_12) 5 n_54) 6 n_55) 32 n_56) 30 f_57) 31 n_58)) := hD
              replace hw : (n_54.toInt ≠ 0 ∧ n_58 = (ws) ∧ f_57 = (fw) ∧ n_56 = (op)) ∨ (n_54 = (bd) ∧ n_56.toInt = (op).toInt + 1 ∧ n_56.toInt ≤ 8 ∧ n_58.toInt = (ws).toInt + 1 ∧ f_57 = upd (fw) (ws).toInt.toNat (16 : Int32)) := hw
              rcases hw with ⟨hq1, hq2, hq3, hq4⟩ | ⟨hq1, hq2, hq3, hq4, hq5⟩
              · have hq9 : n_58.toInt = ws.toInt := by rw [hq2]
                have hq8 : n_56.toInt = op.toInt := by rw [hq4]
                refine lv_aload_n hx hb dX12_test_68 rfl (lv_at hl 2 rfl) ?_
                refine lv_aload_n hx hb dX12_test_69 rfl (lv_at hl 2 rfl) ?_
                refine va_get (D := D) (ci := 11) (v := .ref (ad 19)) (C := RX12) (T := TX12) (N := 85) hx hb hts inX12 hown hK hP 0 mwd_o0 rfl 19 (by decide) fl48 (fun _ h9 => h9) rfl dX12_test_70 ?_
                refine x_callvW (va_runV (As := [.ref (ad 19)]) (rest := []) ⟨hx, hb, hml, hown, hts⟩ (q_asks l D y H.size ad zw (sI (tI (sI (sI (sI (sI (sI (sI (tI (tI (sI (tI (sI (tI (sI (sI (sI (sI (sI (sI σ 2 a) 4 en) 5 bd) 6 bp) 23 np) 29 cd) 27 fc) 32 op) 30 fw) 31 ws) 24 fh) 26 fn) 40 ba) 2 n_9) 2 n_12) 5 n_54) 6 n_55) 32 n_56) 30 f_57) 31 n_58) (ad 19) 3 12 (zw 19) (fun _ => rfl) (by decide) (by decide) (show 0 ≤ (n_12).toInt from by first | omega | decide) (show (n_12).toInt ≤ ((σ.1 3)).toInt from by first | omega | decide) (show ((σ.1 3)).toInt ≤ 700 from by first | omega | decide)) (cwV 1 hts g_q_test_8 rfl rfl rfl (by decide +kernel) ⟨Nat.le_of_ble_eq_true rfl, Nat.le_of_ble_eq_true rfl⟩) (x_preV (q := (RX12, TX12, 85)) hK hP hD (ci := 11) (q0 := 0) rfl mwd_o0) rfl rfl hl.1 rfl (lv_room (Nat.le_of_ble_eq_true rfl)) dX12_test_73 ⟨Nat.le_of_ble_eq_true rfl, Nat.le_of_ble_eq_true rfl⟩) hP hD hS hA (fun u H locs hw hP hD hS => ?_)
                obtain ⟨n_59, n_60, n_61, n_62⟩ := u
                try dsimp only at hw
                have hP : va_P D vwCl (mwd y ad zw (sI (sI (sI (sI (sI (tI (sI (sI (sI (sI (sI (sI (tI (tI (sI (tI (sI (tI (sI (sI (sI (sI (sI (sI σ 2 a) 4 en) 5 bd) 6 bp) 23 np) 29 cd) 27 fc) 32 op) 30 fw) 31 ws) 24 fh) 26 fn) 40 ba) 2 n_9) 2 n_12) 5 n_54) 6 n_55) 32 n_56) 30 f_57) 31 n_58) 2 n_59) 4 n_60) 5 n_61) 6 n_62)) H := hP
                have hD : va_D A (mwd y ad zw (sI (sI (sI (sI (sI (tI (sI (sI (sI (sI (sI (sI (tI (tI (sI (tI (sI (tI (sI (sI (sI (sI (sI (sI σ 2 a) 4 en) 5 bd) 6 bp) 23 np) 29 cd) 27 fc) 32 op) 30 fw) 31 ws) 24 fh) 26 fn) 40 ba) 2 n_9) 2 n_12) 5 n_54) 6 n_55) 32 n_56) 30 f_57) 31 n_58) 2 n_59) 4 n_60) 5 n_61) 6 n_62)) := hD
                replace hw : (n_12).toInt ≤ n_59.toInt ∧ n_59.toInt ≤ ((σ.1 3)).toInt ∧ (n_61.toInt = 0 → (n_54).toInt = 0 ∧ (n_12).toInt + 3 ≤ n_59.toInt) := hw
                have hbz : n_61.toInt ≠ 0 := fun h9 => absurd (hw.2.2 h9).1 (by omega)
                replace hw := And.intro hw.1 hw.2.1
                refine lv_goto (tgt := 2) hx hb dX12_test_76 (by decide) ?_
                refine lv_iload_n hx hb dX12_test_2 rfl (lv_at hl 1 rfl) ?_
                refine lv_if_eq (tgt := 110) hx hb dX12_test_3 (by decide) (fun c_63 => ?_) (fun c_63 => ?_)
                · have kc_63 : mo.toInt = 0 := by have h9 := c_63; simp only [ge_iff_le, gt_iff_lt, x_lt, x_le, x_eq, ne_eq, Int32.not_lt, Int32.not_le] at h9; simp only [Int32.reduceToInt] at h9; omega
                  refine lv_aload_n hx hb dX12_test_110 rfl (lv_at hl 2 rfl) ?_
                  refine va_get (D := D) (ci := 11) (v := .int n_61) (C := RX12) (T := TX12) (N := 85) hx hb hts inX12 hown hK hP 0 mwd_o0 rfl 5 (by decide) fl191 (fun _ h9 => h9) rfl dX12_test_111 ?_
                  refine lv_if_ne (tgt := 131) hx hb dX12_test_114 (by decide) (fun c_64 => ?_) (fun c_64 => ?_)
                  · have kc_64 : n_61.toInt ≠ 0 := by have h9 := c_64; simp only [ge_iff_le, gt_iff_lt, x_lt, x_le, x_eq, ne_eq, Int32.not_lt, Int32.not_le] at h9; simp only [Int32.reduceToInt] at h9; omega
                    have hP : va_P D vwCl (mwd y ad zw (sI (tI (tI (sI (tI (sI (tI (sI (sI (sI (sI (sI (sI σ 2 n_59) 4 n_60) 5 n_61) 6 n_62) 23 np) 29 cd) 27 fc) 32 n_56) 30 f_57) 31 n_58) 24 fh) 26 fn) 40 ba)) H := hP
                    have hD : va_D A (mwd y ad zw (sI (tI (tI (sI (tI (sI (tI (sI (sI (sI (sI (sI (sI σ 2 n_59) 4 n_60) 5 n_61) 6 n_62) 23 np) 29 cd) 27 fc) 32 n_56) 30 f_57) 31 n_58) 24 fh) 26 fn) 40 ba)) := hD
                    exact x_vretW (u := (n_59, n_60, n_61, n_62, np, cd, fc, n_56, f_57, n_58, fh, fn, ba)) hx hb hr hQ (by (try dsimp only); exact ⟨⟨by omega, by omega, by omega, by omega, by omega, by omega, by omega, hh, by omega, by omega, hba, fun h9 => absurd h9 (by omega)⟩, hfn⟩) hP hD hK hS dX12_test_131 hlocks
                  · have kc_64 : n_61.toInt = 0 := by have h9 := c_64; simp only [ge_iff_le, gt_iff_lt, x_lt, x_le, x_eq, ne_eq, Int32.not_lt, Int32.not_le] at h9; simp only [Int32.reduceToInt] at h9; omega
                    exfalso
                    omega
                · have kc_63 : mo.toInt ≠ 0 := by have h9 := c_63; simp only [ge_iff_le, gt_iff_lt, x_lt, x_le, x_eq, ne_eq, Int32.not_lt, Int32.not_le] at h9; simp only [Int32.reduceToInt] at h9; omega
                  refine lv_aload_n hx hb dX12_test_6 rfl (lv_at hl 2 rfl) ?_
                  refine va_get (D := D) (ci := 11) (v := .int n_61) (C := RX12) (T := TX12) (N := 85) hx hb hts inX12 hown hK hP 0 mwd_o0 rfl 5 (by decide) fl191 (fun _ h9 => h9) rfl dX12_test_7 ?_
                  refine lv_if_ne (tgt := 110) hx hb dX12_test_10 (by decide) (fun c_65 => ?_) (fun c_65 => ?_)
                  · have kc_65 : n_61.toInt ≠ 0 := by have h9 := c_65; simp only [ge_iff_le, gt_iff_lt, x_lt, x_le, x_eq, ne_eq, Int32.not_lt, Int32.not_le] at h9; simp only [Int32.reduceToInt] at h9; omega
                    refine lv_aload_n hx hb dX12_test_110 rfl (lv_at hl 2 rfl) ?_
                    refine va_get (D := D) (ci := 11) (v := .int n_61) (C := RX12) (T := TX12) (N := 85) hx hb hts inX12 hown hK hP 0 mwd_o0 rfl 5 (by decide) fl191 (fun _ h9 => h9) rfl dX12_test_111 ?_
                    refine lv_if_ne (tgt := 131) hx hb dX12_test_114 (by decide) (fun c_66 => ?_) (fun c_66 => ?_)
                    · have kc_66 : n_61.toInt ≠ 0 := by have h9 := c_66; simp only [ge_iff_le, gt_iff_lt, x_lt, x_le, x_eq, ne_eq, Int32.not_lt, Int32.not_le] at h9; simp only [Int32.reduceToInt] at h9; omega
                      have hP : va_P D vwCl (mwd y ad zw (sI (tI (tI (sI (tI (sI (tI (sI (sI (sI (sI (sI (sI σ 2 n_59) 4 n_60) 5 n_61) 6 n_62) 23 np) 29 cd) 27 fc) 32 n_56) 30 f_57) 31 n_58) 24 fh) 26 fn) 40 ba)) H := hP
                      have hD : va_D A (mwd y ad zw (sI (tI (tI (sI (tI (sI (tI (sI (sI (sI (sI (sI (sI σ 2 n_59) 4 n_60) 5 n_61) 6 n_62) 23 np) 29 cd) 27 fc) 32 n_56) 30 f_57) 31 n_58) 24 fh) 26 fn) 40 ba)) := hD
                      exact x_vretW (u := (n_59, n_60, n_61, n_62, np, cd, fc, n_56, f_57, n_58, fh, fn, ba)) hx hb hr hQ (by (try dsimp only); exact ⟨⟨by omega, by omega, by omega, by omega, by omega, by omega, by omega, hh, by omega, by omega, hba, fun h9 => absurd h9 (by omega)⟩, hfn⟩) hP hD hK hS dX12_test_131 hlocks
                    · have kc_66 : n_61.toInt = 0 := by have h9 := c_66; simp only [ge_iff_le, gt_iff_lt, x_lt, x_le, x_eq, ne_eq, Int32.not_lt, Int32.not_le] at h9; simp only [Int32.reduceToInt] at h9; omega
                      exfalso
                      omega
                  · have kc_65 : n_61.toInt = 0 := by have h9 := c_65; simp only [ge_iff_le, gt_iff_lt, x_lt, x_le, x_eq, ne_eq, Int32.not_lt, Int32.not_le] at h9; simp only [Int32.reduceToInt] at h9; omega
                    exfalso
                    omega
              · have hq7 : n_54.toInt = bd.toInt := by rw [hq1]
                have hes9 : TS (σ.2.2.1 27) fc f_57 ((σ.1 29).toInt.toNat) (cd.toInt.toNat) (n_58.toInt.toNat) 0 (1000 + (fh 4).toInt) n_56.toInt (σ.1 32).toInt ∧ NT f_57 n_58.toInt.toNat := by rw [hq5, show n_58.toInt.toNat = ws.toInt.toNat + 1 by omega]; exact ⟨TS_open hes0 (by decide) hq2, NT_open hnt0 (by decide)⟩
                refine lv_aload_n hx hb dX12_test_68 rfl (lv_at hl 2 rfl) ?_
                refine lv_aload_n hx hb dX12_test_69 rfl (lv_at hl 2 rfl) ?_
                refine va_get (D := D) (ci := 11) (v := .ref (ad 19)) (C := RX12) (T := TX12) (N := 85) hx hb hts inX12 hown hK hP 0 mwd_o0 rfl 19 (by decide) fl48 (fun _ h9 => h9) rfl dX12_test_70 ?_
                refine x_callvW (va_runV (As := [.ref (ad 19)]) (rest := []) ⟨hx, hb, hml, hown, hts⟩ (q_asks l D y H.size ad zw (sI (tI (sI (sI (sI (sI (sI (sI (tI (tI (sI (tI (sI (tI (sI (sI (sI (sI (sI (sI σ 2 a) 4 en) 5 bd) 6 bp) 23 np) 29 cd) 27 fc) 32 op) 30 fw) 31 ws) 24 fh) 26 fn) 40 ba) 2 n_9) 2 n_12) 5 n_54) 6 n_55) 32 n_56) 30 f_57) 31 n_58) (ad 19) 3 12 (zw 19) (fun _ => rfl) (by decide) (by decide) (show 0 ≤ (n_12).toInt from by first | omega | decide) (show (n_12).toInt ≤ ((σ.1 3)).toInt from by first | omega | decide) (show ((σ.1 3)).toInt ≤ 700 from by first | omega | decide)) (cwV 1 hts g_q_test_8 rfl rfl rfl (by decide +kernel) ⟨Nat.le_of_ble_eq_true rfl, Nat.le_of_ble_eq_true rfl⟩) (x_preV (q := (RX12, TX12, 85)) hK hP hD (ci := 11) (q0 := 0) rfl mwd_o0) rfl rfl hl.1 rfl (lv_room (Nat.le_of_ble_eq_true rfl)) dX12_test_73 ⟨Nat.le_of_ble_eq_true rfl, Nat.le_of_ble_eq_true rfl⟩) hP hD hS hA (fun u H locs hw hP hD hS => ?_)
                obtain ⟨n_67, n_68, n_69, n_70⟩ := u
                try dsimp only at hw
                have hP : va_P D vwCl (mwd y ad zw (sI (sI (sI (sI (sI (tI (sI (sI (sI (sI (sI (sI (tI (tI (sI (tI (sI (tI (sI (sI (sI (sI (sI (sI σ 2 a) 4 en) 5 bd) 6 bp) 23 np) 29 cd) 27 fc) 32 op) 30 fw) 31 ws) 24 fh) 26 fn) 40 ba) 2 n_9) 2 n_12) 5 n_54) 6 n_55) 32 n_56) 30 f_57) 31 n_58) 2 n_67) 4 n_68) 5 n_69) 6 n_70)) H := hP
                have hD : va_D A (mwd y ad zw (sI (sI (sI (sI (sI (tI (sI (sI (sI (sI (sI (sI (tI (tI (sI (tI (sI (tI (sI (sI (sI (sI (sI (sI σ 2 a) 4 en) 5 bd) 6 bp) 23 np) 29 cd) 27 fc) 32 op) 30 fw) 31 ws) 24 fh) 26 fn) 40 ba) 2 n_9) 2 n_12) 5 n_54) 6 n_55) 32 n_56) 30 f_57) 31 n_58) 2 n_67) 4 n_68) 5 n_69) 6 n_70)) := hD
                replace hw : (n_12).toInt ≤ n_67.toInt ∧ n_67.toInt ≤ ((σ.1 3)).toInt ∧ (n_69.toInt = 0 → (n_54).toInt = 0 ∧ (n_12).toInt + 3 ≤ n_67.toInt) := hw
                rcases Classical.em (n_69.toInt = 0) with hbz | hbz
                · have hsp := (hw.2.2 hbz).2
                  replace hw := And.intro hw.1 hw.2.1
                  refine lv_goto (tgt := 2) hx hb dX12_test_76 (by decide) ?_
                  have l10 : (1 : Int32).toInt = 1 := rfl
                  have l00 : (0 : Int32).toInt = 0 := rfl
                  have hP : va_P D vwCl (mwd y ad zw (sI (tI (tI (sI (tI (sI (tI (sI (sI (sI (sI (sI (sI σ 2 n_67) 4 n_68) 5 n_69) 6 n_70) 23 np) 29 cd) 27 fc) 32 n_56) 30 f_57) 31 n_58) 24 fh) 26 fn) 40 ba)) H := hP
                  have hD : va_D A (mwd y ad zw (sI (tI (tI (sI (tI (sI (tI (sI (sI (sI (sI (sI (sI σ 2 n_67) 4 n_68) 5 n_69) 6 n_70) 23 np) 29 cd) 27 fc) 32 n_56) 30 f_57) 31 n_58) 24 fh) 26 fn) 40 ba)) := hD
                  exact ih_loop mo n_67 n_68 n_69 n_70 np cd fc n_56 f_57 n_58 fh fn ba H locs ls (by omega) (by omega) (by omega) (by omega) (by omega) (by omega) ⟨by omega, by omega, by omega, by omega⟩ (by omega) hh ⟨by omega, by omega⟩ hba ⟨fun _ => hes9, fun h8 => absurd h8 (by first | decide | omega)⟩ hfn (by omega) hP hD hS (lv_sub hl [1, 2] rfl)
                · replace hw := And.intro hw.1 hw.2.1
                  refine lv_goto (tgt := 2) hx hb dX12_test_76 (by decide) ?_
                  refine lv_iload_n hx hb dX12_test_2 rfl (lv_at hl 1 rfl) ?_
                  refine lv_if_eq (tgt := 110) hx hb dX12_test_3 (by decide) (fun c_71 => ?_) (fun c_71 => ?_)
                  · have kc_71 : mo.toInt = 0 := by have h9 := c_71; simp only [ge_iff_le, gt_iff_lt, x_lt, x_le, x_eq, ne_eq, Int32.not_lt, Int32.not_le] at h9; simp only [Int32.reduceToInt] at h9; omega
                    refine lv_aload_n hx hb dX12_test_110 rfl (lv_at hl 2 rfl) ?_
                    refine va_get (D := D) (ci := 11) (v := .int n_69) (C := RX12) (T := TX12) (N := 85) hx hb hts inX12 hown hK hP 0 mwd_o0 rfl 5 (by decide) fl191 (fun _ h9 => h9) rfl dX12_test_111 ?_
                    refine lv_if_ne (tgt := 131) hx hb dX12_test_114 (by decide) (fun c_72 => ?_) (fun c_72 => ?_)
                    · have kc_72 : n_69.toInt ≠ 0 := by have h9 := c_72; simp only [ge_iff_le, gt_iff_lt, x_lt, x_le, x_eq, ne_eq, Int32.not_lt, Int32.not_le] at h9; simp only [Int32.reduceToInt] at h9; omega
                      have hP : va_P D vwCl (mwd y ad zw (sI (tI (tI (sI (tI (sI (tI (sI (sI (sI (sI (sI (sI σ 2 n_67) 4 n_68) 5 n_69) 6 n_70) 23 np) 29 cd) 27 fc) 32 n_56) 30 f_57) 31 n_58) 24 fh) 26 fn) 40 ba)) H := hP
                      have hD : va_D A (mwd y ad zw (sI (tI (tI (sI (tI (sI (tI (sI (sI (sI (sI (sI (sI σ 2 n_67) 4 n_68) 5 n_69) 6 n_70) 23 np) 29 cd) 27 fc) 32 n_56) 30 f_57) 31 n_58) 24 fh) 26 fn) 40 ba)) := hD
                      exact x_vretW (u := (n_67, n_68, n_69, n_70, np, cd, fc, n_56, f_57, n_58, fh, fn, ba)) hx hb hr hQ (by (try dsimp only); exact ⟨⟨by omega, by omega, by omega, by omega, by omega, by omega, by omega, hh, by omega, by omega, hba, fun h9 => absurd h9 (by omega)⟩, hfn⟩) hP hD hK hS dX12_test_131 hlocks
                    · have kc_72 : n_69.toInt = 0 := by have h9 := c_72; simp only [ge_iff_le, gt_iff_lt, x_lt, x_le, x_eq, ne_eq, Int32.not_lt, Int32.not_le] at h9; simp only [Int32.reduceToInt] at h9; omega
                      exfalso
                      omega
                  · have kc_71 : mo.toInt ≠ 0 := by have h9 := c_71; simp only [ge_iff_le, gt_iff_lt, x_lt, x_le, x_eq, ne_eq, Int32.not_lt, Int32.not_le] at h9; simp only [Int32.reduceToInt] at h9; omega
                    refine lv_aload_n hx hb dX12_test_6 rfl (lv_at hl 2 rfl) ?_
                    refine va_get (D := D) (ci := 11) (v := .int n_69) (C := RX12) (T := TX12) (N := 85) hx hb hts inX12 hown hK hP 0 mwd_o0 rfl 5 (by decide) fl191 (fun _ h9 => h9) rfl dX12_test_7 ?_
                    refine lv_if_ne (tgt := 110) hx hb dX12_test_10 (by decide) (fun c_73 => ?_) (fun c_73 => ?_)
                    · have kc_73 : n_69.toInt ≠ 0 := by have h9 := c_73; simp only [ge_iff_le, gt_iff_lt, x_lt, x_le, x_eq, ne_eq, Int32.not_lt, Int32.not_le] at h9; simp only [Int32.reduceToInt] at h9; omega
                      refine lv_aload_n hx hb dX12_test_110 rfl (lv_at hl 2 rfl) ?_
                      refine va_get (D := D) (ci := 11) (v := .int n_69) (C := RX12) (T := TX12) (N := 85) hx hb hts inX12 hown hK hP 0 mwd_o0 rfl 5 (by decide) fl191 (fun _ h9 => h9) rfl dX12_test_111 ?_
                      refine lv_if_ne (tgt := 131) hx hb dX12_test_114 (by decide) (fun c_74 => ?_) (fun c_74 => ?_)
                      · have kc_74 : n_69.toInt ≠ 0 := by have h9 := c_74; simp only [ge_iff_le, gt_iff_lt, x_lt, x_le, x_eq, ne_eq, Int32.not_lt, Int32.not_le] at h9; simp only [Int32.reduceToInt] at h9; omega
                        have hP : va_P D vwCl (mwd y ad zw (sI (tI (tI (sI (tI (sI (tI (sI (sI (sI (sI (sI (sI σ 2 n_67) 4 n_68) 5 n_69) 6 n_70) 23 np) 29 cd) 27 fc) 32 n_56) 30 f_57) 31 n_58) 24 fh) 26 fn) 40 ba)) H := hP
                        have hD : va_D A (mwd y ad zw (sI (tI (tI (sI (tI (sI (tI (sI (sI (sI (sI (sI (sI σ 2 n_67) 4 n_68) 5 n_69) 6 n_70) 23 np) 29 cd) 27 fc) 32 n_56) 30 f_57) 31 n_58) 24 fh) 26 fn) 40 ba)) := hD
                        exact x_vretW (u := (n_67, n_68, n_69, n_70, np, cd, fc, n_56, f_57, n_58, fh, fn, ba)) hx hb hr hQ (by (try dsimp only); exact ⟨⟨by omega, by omega, by omega, by omega, by omega, by omega, by omega, hh, by omega, by omega, hba, fun h9 => absurd h9 (by omega)⟩, hfn⟩) hP hD hK hS dX12_test_131 hlocks
                      · have kc_74 : n_69.toInt = 0 := by have h9 := c_74; simp only [ge_iff_le, gt_iff_lt, x_lt, x_le, x_eq, ne_eq, Int32.not_lt, Int32.not_le] at h9; simp only [Int32.reduceToInt] at h9; omega
                        exfalso
                        omega
                    · have kc_73 : n_69.toInt = 0 := by have h9 := c_73; simp only [ge_iff_le, gt_iff_lt, x_lt, x_le, x_eq, ne_eq, Int32.not_lt, Int32.not_le] at h9; simp only [Int32.reduceToInt] at h9; omega
                      exfalso
                      omega
          · have kc_10 : r_8.toInt = 91 := by have h9 := c_10; simp only [ge_iff_le, gt_iff_lt, x_lt, x_le, x_eq, ne_eq, Int32.not_lt, Int32.not_le] at h9; simp only [Int32.reduceToInt] at h9; omega
            refine lv_aload_n hx hb dX12_test_24 rfl (lv_at hl 2 rfl) ?_
            refine lv_bipush (v := 30) hx hb dX12_test_25 (by decide) ?_
            refine lv_aload_n hx hb dX12_test_27 rfl (lv_at hl 2 rfl) ?_
            refine va_get (D := D) (ci := 11) (v := .int n_9) (C := RX12) (T := TX12) (N := 85) hx hb hts inX12 hown hK hP 0 mwd_o0 rfl 2 (by decide) fl197 (fun _ h9 => h9) rfl dX12_test_28 ?_
            refine x_callvW (va_runV (As := [.int 30, .int n_9]) (rest := []) ⟨hx, hb, hml, hown, hts⟩ (q_opensOne l D y H.size ad zw (sI (sI (tI (tI (sI (tI (sI (tI (sI (sI (sI (sI (sI (sI σ 2 a) 4 en) 5 bd) 6 bp) 23 np) 29 cd) 27 fc) 32 op) 30 fw) 31 ws) 24 fh) 26 fn) 40 ba) 2 n_9) 30 n_9 (show 0 ≤ (op).toInt from by first | omega | decide) (show (op).toInt ≤ 8 from by first | omega | decide) (show 0 ≤ (ws).toInt from by first | omega | decide) (show (ws).toInt < 800 from by first | omega | decide)) (cwV 2 hts g_q_test_7 rfl rfl rfl (by decide +kernel) ⟨Nat.le_of_ble_eq_true rfl, Nat.le_of_ble_eq_true rfl⟩) (x_preV (q := (RX12, TX12, 85)) hK hP hD (ci := 11) (q0 := 0) rfl mwd_o0) rfl rfl hl.1 rfl (lv_room (Nat.le_of_ble_eq_true rfl)) dX12_test_31 ⟨Nat.le_of_ble_eq_true rfl, Nat.le_of_ble_eq_true rfl⟩) hP hD hS hA (fun u H locs hw hP hD hS => ?_)
            obtain ⟨n_75, n_76, n_77, f_78, n_79⟩ := u
            try dsimp only at hw
            have hP : va_P D vwCl (mwd y ad zw (sI (tI (sI (sI (sI (sI (sI (tI (tI (sI (tI (sI (tI (sI (sI (sI (sI (sI (sI σ 2 a) 4 en) 5 bd) 6 bp) 23 np) 29 cd) 27 fc) 32 op) 30 fw) 31 ws) 24 fh) 26 fn) 40 ba) 2 n_9) 5 n_75) 6 n_76) 32 n_77) 30 f_78) 31 n_79)) H := hP
            have hD : va_D A (mwd y ad zw (sI (tI (sI (sI (sI (sI (sI (tI (tI (sI (tI (sI (tI (sI (sI (sI (sI (sI (sI σ 2 a) 4 en) 5 bd) 6 bp) 23 np) 29 cd) 27 fc) 32 op) 30 fw) 31 ws) 24 fh) 26 fn) 40 ba) 2 n_9) 5 n_75) 6 n_76) 32 n_77) 30 f_78) 31 n_79)) := hD
            replace hw : (n_75.toInt ≠ 0 ∧ n_79 = (ws) ∧ f_78 = (fw) ∧ n_77 = (op)) ∨ (n_75 = (bd) ∧ n_77.toInt = (op).toInt + 1 ∧ n_77.toInt ≤ 8 ∧ n_79.toInt = (ws).toInt + 1 ∧ f_78 = upd (fw) (ws).toInt.toNat (30 : Int32)) := hw
            rcases hw with ⟨hq1, hq2, hq3, hq4⟩ | ⟨hq1, hq2, hq3, hq4, hq5⟩
            · have hq9 : n_79.toInt = ws.toInt := by rw [hq2]
              have hq8 : n_77.toInt = op.toInt := by rw [hq4]
              refine lv_aload_n hx hb dX12_test_34 rfl (lv_at hl 2 rfl) ?_
              refine lv_dup hx hb dX12_test_35 rfl ?_
              refine va_get (D := D) (ci := 11) (v := .int n_9) (C := RX12) (T := TX12) (N := 85) hx hb hts inX12 hown hK hP 0 mwd_o0 rfl 2 (by decide) fl197 (fun _ h9 => h9) rfl dX12_test_36 ?_
              refine lv_iconst (v := 1) hx hb dX12_test_39 (by decide) ?_
              refine lv_iadd hx hb dX12_test_40 ?_
              refine lv_topi (fun i_80 ei_80 => ?_)
              have vi_80 : i_80.toInt = n_9.toInt + 1 := by have h9 := x_add ei_80 (by omega) (by omega); omega
              refine va_put (D := D) (ci := 11) (v := .int i_80) (ty := .int) (C := RX12) (T := TX12) (N := 85) hx hb hts inX12 tyX12 tyX12_ok nmX12 hown hK hP hD hS 0 mwd_o0 rfl 2 (by decide) fl197 (fun _ h9 => h9) rfl (by decide +kernel) rfl rfl (Nat.le_of_ble_eq_true rfl) dX12_test_41 (fun H locs hP hD hS => ?_)
              have hP : va_P D vwCl (mwd y ad zw (sI (sI (tI (sI (sI (sI (sI (sI (tI (tI (sI (tI (sI (tI (sI (sI (sI (sI (sI (sI σ 2 a) 4 en) 5 bd) 6 bp) 23 np) 29 cd) 27 fc) 32 op) 30 fw) 31 ws) 24 fh) 26 fn) 40 ba) 2 n_9) 5 n_75) 6 n_76) 32 n_77) 30 f_78) 31 n_79) 2 i_80)) H := x_trP hP mwd_p0_2
              have hD : va_D A (mwd y ad zw (sI (sI (tI (sI (sI (sI (sI (sI (tI (tI (sI (tI (sI (tI (sI (sI (sI (sI (sI (sI σ 2 a) 4 en) 5 bd) 6 bp) 23 np) 29 cd) 27 fc) 32 op) 30 fw) 31 ws) 24 fh) 26 fn) 40 ba) 2 n_9) 5 n_75) 6 n_76) 32 n_77) 30 f_78) 31 n_79) 2 i_80)) := x_trD hD mwd_p0_2
              refine lv_goto (tgt := 2) hx hb dX12_test_44 (by decide) ?_
              refine lv_iload_n hx hb dX12_test_2 rfl (lv_at hl 1 rfl) ?_
              refine lv_if_eq (tgt := 110) hx hb dX12_test_3 (by decide) (fun c_81 => ?_) (fun c_81 => ?_)
              · have kc_81 : mo.toInt = 0 := by have h9 := c_81; simp only [ge_iff_le, gt_iff_lt, x_lt, x_le, x_eq, ne_eq, Int32.not_lt, Int32.not_le] at h9; simp only [Int32.reduceToInt] at h9; omega
                refine lv_aload_n hx hb dX12_test_110 rfl (lv_at hl 2 rfl) ?_
                refine va_get (D := D) (ci := 11) (v := .int n_75) (C := RX12) (T := TX12) (N := 85) hx hb hts inX12 hown hK hP 0 mwd_o0 rfl 5 (by decide) fl191 (fun _ h9 => h9) rfl dX12_test_111 ?_
                refine lv_if_ne (tgt := 131) hx hb dX12_test_114 (by decide) (fun c_82 => ?_) (fun c_82 => ?_)
                · have kc_82 : n_75.toInt ≠ 0 := by have h9 := c_82; simp only [ge_iff_le, gt_iff_lt, x_lt, x_le, x_eq, ne_eq, Int32.not_lt, Int32.not_le] at h9; simp only [Int32.reduceToInt] at h9; omega
                  have hP : va_P D vwCl (mwd y ad zw (sI (tI (tI (sI (tI (sI (tI (sI (sI (sI (sI (sI (sI σ 2 i_80) 4 en) 5 n_75) 6 n_76) 23 np) 29 cd) 27 fc) 32 n_77) 30 f_78) 31 n_79) 24 fh) 26 fn) 40 ba)) H := hP
                  have hD : va_D A (mwd y ad zw (sI (tI (tI (sI (tI (sI (tI (sI (sI (sI (sI (sI (sI σ 2 i_80) 4 en) 5 n_75) 6 n_76) 23 np) 29 cd) 27 fc) 32 n_77) 30 f_78) 31 n_79) 24 fh) 26 fn) 40 ba)) := hD
                  exact x_vretW (u := (i_80, en, n_75, n_76, np, cd, fc, n_77, f_78, n_79, fh, fn, ba)) hx hb hr hQ (by (try dsimp only); exact ⟨⟨by omega, by omega, by omega, by omega, by omega, by omega, by omega, hh, by omega, by omega, hba, fun h9 => absurd h9 (by omega)⟩, hfn⟩) hP hD hK hS dX12_test_131 hlocks
                · have kc_82 : n_75.toInt = 0 := by have h9 := c_82; simp only [ge_iff_le, gt_iff_lt, x_lt, x_le, x_eq, ne_eq, Int32.not_lt, Int32.not_le] at h9; simp only [Int32.reduceToInt] at h9; omega
                  exfalso
                  omega
              · have kc_81 : mo.toInt ≠ 0 := by have h9 := c_81; simp only [ge_iff_le, gt_iff_lt, x_lt, x_le, x_eq, ne_eq, Int32.not_lt, Int32.not_le] at h9; simp only [Int32.reduceToInt] at h9; omega
                refine lv_aload_n hx hb dX12_test_6 rfl (lv_at hl 2 rfl) ?_
                refine va_get (D := D) (ci := 11) (v := .int n_75) (C := RX12) (T := TX12) (N := 85) hx hb hts inX12 hown hK hP 0 mwd_o0 rfl 5 (by decide) fl191 (fun _ h9 => h9) rfl dX12_test_7 ?_
                refine lv_if_ne (tgt := 110) hx hb dX12_test_10 (by decide) (fun c_83 => ?_) (fun c_83 => ?_)
                · have kc_83 : n_75.toInt ≠ 0 := by have h9 := c_83; simp only [ge_iff_le, gt_iff_lt, x_lt, x_le, x_eq, ne_eq, Int32.not_lt, Int32.not_le] at h9; simp only [Int32.reduceToInt] at h9; omega
                  refine lv_aload_n hx hb dX12_test_110 rfl (lv_at hl 2 rfl) ?_
                  refine va_get (D := D) (ci := 11) (v := .int n_75) (C := RX12) (T := TX12) (N := 85) hx hb hts inX12 hown hK hP 0 mwd_o0 rfl 5 (by decide) fl191 (fun _ h9 => h9) rfl dX12_test_111 ?_
                  refine lv_if_ne (tgt := 131) hx hb dX12_test_114 (by decide) (fun c_84 => ?_) (fun c_84 => ?_)
                  · have kc_84 : n_75.toInt ≠ 0 := by have h9 := c_84; simp only [ge_iff_le, gt_iff_lt, x_lt, x_le, x_eq, ne_eq, Int32.not_lt, Int32.not_le] at h9; simp only [Int32.reduceToInt] at h9; omega
                    have hP : va_P D vwCl (mwd y ad zw (sI (tI (tI (sI (tI (sI (tI (sI (sI (sI (sI (sI (sI σ 2 i_80) 4 en) 5 n_75) 6 n_76) 23 np) 29 cd) 27 fc) 32 n_77) 30 f_78) 31 n_79) 24 fh) 26 fn) 40 ba)) H := hP
                    have hD : va_D A (mwd y ad zw (sI (tI (tI (sI (tI (sI (tI (sI (sI (sI (sI (sI (sI σ 2 i_80) 4 en) 5 n_75) 6 n_76) 23 np) 29 cd) 27 fc) 32 n_77) 30 f_78) 31 n_79) 24 fh) 26 fn) 40 ba)) := hD
                    exact x_vretW (u := (i_80, en, n_75, n_76, np, cd, fc, n_77, f_78, n_79, fh, fn, ba)) hx hb hr hQ (by (try dsimp only); exact ⟨⟨by omega, by omega, by omega, by omega, by omega, by omega, by omega, hh, by omega, by omega, hba, fun h9 => absurd h9 (by omega)⟩, hfn⟩) hP hD hK hS dX12_test_131 hlocks
                  · have kc_84 : n_75.toInt = 0 := by have h9 := c_84; simp only [ge_iff_le, gt_iff_lt, x_lt, x_le, x_eq, ne_eq, Int32.not_lt, Int32.not_le] at h9; simp only [Int32.reduceToInt] at h9; omega
                    exfalso
                    omega
                · have kc_83 : n_75.toInt = 0 := by have h9 := c_83; simp only [ge_iff_le, gt_iff_lt, x_lt, x_le, x_eq, ne_eq, Int32.not_lt, Int32.not_le] at h9; simp only [Int32.reduceToInt] at h9; omega
                  exfalso
                  omega
            · have hq7 : n_75.toInt = bd.toInt := by rw [hq1]
              have hes9 : TS (σ.2.2.1 27) fc f_78 ((σ.1 29).toInt.toNat) (cd.toInt.toNat) (n_79.toInt.toNat) 0 (1000 + (fh 4).toInt) n_77.toInt (σ.1 32).toInt ∧ NT f_78 n_79.toInt.toNat := by rw [hq5, show n_79.toInt.toNat = ws.toInt.toNat + 1 by omega]; exact ⟨TS_open hes0 (by decide) hq2, NT_open hnt0 (by decide)⟩
              refine lv_aload_n hx hb dX12_test_34 rfl (lv_at hl 2 rfl) ?_
              refine lv_dup hx hb dX12_test_35 rfl ?_
              refine va_get (D := D) (ci := 11) (v := .int n_9) (C := RX12) (T := TX12) (N := 85) hx hb hts inX12 hown hK hP 0 mwd_o0 rfl 2 (by decide) fl197 (fun _ h9 => h9) rfl dX12_test_36 ?_
              refine lv_iconst (v := 1) hx hb dX12_test_39 (by decide) ?_
              refine lv_iadd hx hb dX12_test_40 ?_
              refine lv_topi (fun i_85 ei_85 => ?_)
              have vi_85 : i_85.toInt = n_9.toInt + 1 := by have h9 := x_add ei_85 (by omega) (by omega); omega
              refine va_put (D := D) (ci := 11) (v := .int i_85) (ty := .int) (C := RX12) (T := TX12) (N := 85) hx hb hts inX12 tyX12 tyX12_ok nmX12 hown hK hP hD hS 0 mwd_o0 rfl 2 (by decide) fl197 (fun _ h9 => h9) rfl (by decide +kernel) rfl rfl (Nat.le_of_ble_eq_true rfl) dX12_test_41 (fun H locs hP hD hS => ?_)
              have hP : va_P D vwCl (mwd y ad zw (sI (sI (tI (sI (sI (sI (sI (sI (tI (tI (sI (tI (sI (tI (sI (sI (sI (sI (sI (sI σ 2 a) 4 en) 5 bd) 6 bp) 23 np) 29 cd) 27 fc) 32 op) 30 fw) 31 ws) 24 fh) 26 fn) 40 ba) 2 n_9) 5 n_75) 6 n_76) 32 n_77) 30 f_78) 31 n_79) 2 i_85)) H := x_trP hP mwd_p0_2
              have hD : va_D A (mwd y ad zw (sI (sI (tI (sI (sI (sI (sI (sI (tI (tI (sI (tI (sI (tI (sI (sI (sI (sI (sI (sI σ 2 a) 4 en) 5 bd) 6 bp) 23 np) 29 cd) 27 fc) 32 op) 30 fw) 31 ws) 24 fh) 26 fn) 40 ba) 2 n_9) 5 n_75) 6 n_76) 32 n_77) 30 f_78) 31 n_79) 2 i_85)) := x_trD hD mwd_p0_2
              refine lv_goto (tgt := 2) hx hb dX12_test_44 (by decide) ?_
              have l10 : (1 : Int32).toInt = 1 := rfl
              have l00 : (0 : Int32).toInt = 0 := rfl
              have hP : va_P D vwCl (mwd y ad zw (sI (tI (tI (sI (tI (sI (tI (sI (sI (sI (sI (sI (sI σ 2 i_85) 4 en) 5 n_75) 6 n_76) 23 np) 29 cd) 27 fc) 32 n_77) 30 f_78) 31 n_79) 24 fh) 26 fn) 40 ba)) H := hP
              have hD : va_D A (mwd y ad zw (sI (tI (tI (sI (tI (sI (tI (sI (sI (sI (sI (sI (sI σ 2 i_85) 4 en) 5 n_75) 6 n_76) 23 np) 29 cd) 27 fc) 32 n_77) 30 f_78) 31 n_79) 24 fh) 26 fn) 40 ba)) := hD
              exact ih_loop mo i_85 en n_75 n_76 np cd fc n_77 f_78 n_79 fh fn ba H locs ls (by omega) (by omega) (by omega) (by omega) (by omega) (by omega) ⟨by omega, by omega, by omega, by omega⟩ (by omega) hh ⟨by omega, by omega⟩ hba ⟨fun _ => hes9, fun h8 => absurd h8 (by first | decide | omega)⟩ hfn (by omega) hP hD hS (lv_sub hl [1, 2] rfl)
  exact loop 1500 1 (σ.1 2) (σ.1 4) (σ.1 5) (σ.1 6) (σ.1 23) (σ.1 29) (σ.2.2.1 27) (σ.1 32) (σ.2.2.1 30) (σ.1 31) (σ.2.2.1 24) (σ.2.2.1 26) (σ.1 40) H locs ls (by omega) (by omega) hb0 (by omega) (by omega) (by omega) ⟨by omega, by omega, by omega, by omega⟩ (by omega) (fun _ _ => rfl) ⟨by omega, by omega⟩ rfl ⟨fun _ => by rw [show (σ.1 31).toInt.toNat = 0 by omega]; exact ⟨TS_start _ _ _ _ _, NT_start _⟩, fun h8 => absurd h8 (by decide)⟩ hB26 (by omega) hP hD hS (lv_sub hl [0, 1] rfl)

