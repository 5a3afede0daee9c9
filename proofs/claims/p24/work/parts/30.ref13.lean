theorem dX12_isHere_0 : decode cX12_isHere 0 = .ok (.aload_n 0, 1) := by decide +kernel
theorem dX12_isHere_1 : decode cX12_isHere 1 = .ok (.getfield 191, 3) := by decide +kernel
theorem dX12_isHere_4 : decode cX12_isHere 4 = .ok (.ifCond .ne 24, 3) := by decide +kernel
theorem dX12_isHere_7 : decode cX12_isHere 7 = .ok (.aload_n 0, 1) := by decide +kernel
theorem dX12_isHere_8 : decode cX12_isHere 8 = .ok (.invokevirtual 203, 3) := by decide +kernel
theorem dX12_isHere_11 : decode cX12_isHere 11 = .ok (.invokestatic 207, 3) := by decide +kernel
theorem dX12_isHere_14 : decode cX12_isHere 14 = .ok (.ifCond .eq 14, 3) := by decide +kernel
theorem dX12_isHere_17 : decode cX12_isHere 17 = .ok (.aload_n 0, 1) := by decide +kernel
theorem dX12_isHere_18 : decode cX12_isHere 18 = .ok (.getfield 197, 3) := by decide +kernel
theorem dX12_isHere_21 : decode cX12_isHere 21 = .ok (.aload_n 0, 1) := by decide +kernel
theorem dX12_isHere_22 : decode cX12_isHere 22 = .ok (.getfield 211, 3) := by decide +kernel
theorem dX12_isHere_25 : decode cX12_isHere 25 = .ok (.if_icmp .ne 5, 3) := by decide +kernel
theorem dX12_isHere_28 : decode cX12_isHere 28 = .ok (.iconst 0, 1) := by decide +kernel
theorem dX12_isHere_29 : decode cX12_isHere 29 = .ok (.ireturn, 1) := by decide +kernel
theorem dX12_isHere_30 : decode cX12_isHere 30 = .ok (.aload_n 0, 1) := by decide +kernel
theorem dX12_isHere_31 : decode cX12_isHere 31 = .ok (.getfield 197, 3) := by decide +kernel
theorem dX12_isHere_34 : decode cX12_isHere 34 = .ok (.istore_n 2, 1) := by decide +kernel
theorem dX12_isHere_35 : decode cX12_isHere 35 = .ok (.iload_n 2, 1) := by decide +kernel
theorem dX12_isHere_36 : decode cX12_isHere 36 = .ok (.aload_n 0, 1) := by decide +kernel
theorem dX12_isHere_37 : decode cX12_isHere 37 = .ok (.getfield 200, 3) := by decide +kernel
theorem dX12_isHere_40 : decode cX12_isHere 40 = .ok (.if_icmp .ge 21, 3) := by decide +kernel
theorem dX12_isHere_43 : decode cX12_isHere 43 = .ok (.aload_n 0, 1) := by decide +kernel
theorem dX12_isHere_44 : decode cX12_isHere 44 = .ok (.getfield 7, 3) := by decide +kernel
theorem dX12_isHere_47 : decode cX12_isHere 47 = .ok (.iload_n 2, 1) := by decide +kernel
theorem dX12_isHere_48 : decode cX12_isHere 48 = .ok (.iaload, 1) := by decide +kernel
theorem dX12_isHere_49 : decode cX12_isHere 49 = .ok (.invokestatic 207, 3) := by decide +kernel
theorem dX12_isHere_52 : decode cX12_isHere 52 = .ok (.ifCond .eq 9, 3) := by decide +kernel
theorem dX12_isHere_55 : decode cX12_isHere 55 = .ok (.iinc 2 1, 3) := by decide +kernel
theorem dX12_isHere_58 : decode cX12_isHere 58 = .ok (.goto (-23), 3) := by decide +kernel
theorem dX12_isHere_61 : decode cX12_isHere 61 = .ok (.iload_n 2, 1) := by decide +kernel
theorem dX12_isHere_62 : decode cX12_isHere 62 = .ok (.aload_n 0, 1) := by decide +kernel
theorem dX12_isHere_63 : decode cX12_isHere 63 = .ok (.getfield 197, 3) := by decide +kernel
theorem dX12_isHere_66 : decode cX12_isHere 66 = .ok (.isub, 1) := by decide +kernel
theorem dX12_isHere_67 : decode cX12_isHere 67 = .ok (.aload_n 1, 1) := by decide +kernel
theorem dX12_isHere_68 : decode cX12_isHere 68 = .ok (.arraylength, 1) := by decide +kernel
theorem dX12_isHere_69 : decode cX12_isHere 69 = .ok (.if_icmp .eq 5, 3) := by decide +kernel
theorem dX12_isHere_72 : decode cX12_isHere 72 = .ok (.iconst 0, 1) := by decide +kernel
theorem dX12_isHere_73 : decode cX12_isHere 73 = .ok (.ireturn, 1) := by decide +kernel
theorem dX12_isHere_74 : decode cX12_isHere 74 = .ok (.iconst 0, 1) := by decide +kernel
theorem dX12_isHere_75 : decode cX12_isHere 75 = .ok (.istore_n 3, 1) := by decide +kernel
theorem dX12_isHere_76 : decode cX12_isHere 76 = .ok (.iload_n 3, 1) := by decide +kernel
theorem dX12_isHere_77 : decode cX12_isHere 77 = .ok (.aload_n 1, 1) := by decide +kernel
theorem dX12_isHere_78 : decode cX12_isHere 78 = .ok (.arraylength, 1) := by decide +kernel
theorem dX12_isHere_79 : decode cX12_isHere 79 = .ok (.if_icmp .ge 28, 3) := by decide +kernel
theorem dX12_isHere_82 : decode cX12_isHere 82 = .ok (.aload_n 0, 1) := by decide +kernel
theorem dX12_isHere_83 : decode cX12_isHere 83 = .ok (.getfield 7, 3) := by decide +kernel
theorem dX12_isHere_86 : decode cX12_isHere 86 = .ok (.aload_n 0, 1) := by decide +kernel
theorem dX12_isHere_87 : decode cX12_isHere 87 = .ok (.getfield 197, 3) := by decide +kernel
theorem dX12_isHere_90 : decode cX12_isHere 90 = .ok (.iload_n 3, 1) := by decide +kernel
theorem dX12_isHere_91 : decode cX12_isHere 91 = .ok (.iadd, 1) := by decide +kernel
theorem dX12_isHere_92 : decode cX12_isHere 92 = .ok (.iaload, 1) := by decide +kernel
theorem dX12_isHere_93 : decode cX12_isHere 93 = .ok (.aload_n 1, 1) := by decide +kernel
theorem dX12_isHere_94 : decode cX12_isHere 94 = .ok (.iload_n 3, 1) := by decide +kernel
theorem dX12_isHere_95 : decode cX12_isHere 95 = .ok (.caload, 1) := by decide +kernel
theorem dX12_isHere_96 : decode cX12_isHere 96 = .ok (.if_icmp .eq 5, 3) := by decide +kernel
theorem dX12_isHere_99 : decode cX12_isHere 99 = .ok (.iconst 0, 1) := by decide +kernel
theorem dX12_isHere_100 : decode cX12_isHere 100 = .ok (.ireturn, 1) := by decide +kernel
theorem dX12_isHere_101 : decode cX12_isHere 101 = .ok (.iinc 3 1, 3) := by decide +kernel
theorem dX12_isHere_104 : decode cX12_isHere 104 = .ok (.goto (-28), 3) := by decide +kernel
theorem dX12_isHere_107 : decode cX12_isHere 107 = .ok (.iconst 1, 1) := by decide +kernel
theorem dX12_isHere_108 : decode cX12_isHere 108 = .ok (.ireturn, 1) := by decide +kernel
theorem dX12_takes_0 : decode cX12_takes 0 = .ok (.aload_n 0, 1) := by decide +kernel
theorem dX12_takes_1 : decode cX12_takes 1 = .ok (.aload_n 1, 1) := by decide +kernel
theorem dX12_takes_2 : decode cX12_takes 2 = .ok (.invokevirtual 214, 3) := by decide +kernel
theorem dX12_takes_5 : decode cX12_takes 5 = .ok (.ifCond .ne 5, 3) := by decide +kernel
theorem dX12_takes_8 : decode cX12_takes 8 = .ok (.iconst 0, 1) := by decide +kernel
theorem dX12_takes_9 : decode cX12_takes 9 = .ok (.ireturn, 1) := by decide +kernel
theorem dX12_takes_10 : decode cX12_takes 10 = .ok (.aload_n 0, 1) := by decide +kernel
theorem dX12_takes_11 : decode cX12_takes 11 = .ok (.dup, 1) := by decide +kernel
theorem dX12_takes_12 : decode cX12_takes 12 = .ok (.getfield 197, 3) := by decide +kernel
theorem dX12_takes_15 : decode cX12_takes 15 = .ok (.aload_n 1, 1) := by decide +kernel
theorem dX12_takes_16 : decode cX12_takes 16 = .ok (.arraylength, 1) := by decide +kernel
theorem dX12_takes_17 : decode cX12_takes 17 = .ok (.iadd, 1) := by decide +kernel
theorem dX12_takes_18 : decode cX12_takes 18 = .ok (.putfield 197, 3) := by decide +kernel
theorem dX12_takes_21 : decode cX12_takes 21 = .ok (.aload_n 0, 1) := by decide +kernel
theorem dX12_takes_22 : decode cX12_takes 22 = .ok (.aload_n 0, 1) := by decide +kernel
theorem dX12_takes_23 : decode cX12_takes 23 = .ok (.getfield 197, 3) := by decide +kernel
theorem dX12_takes_26 : decode cX12_takes 26 = .ok (.putfield 211, 3) := by decide +kernel
theorem dX12_takes_29 : decode cX12_takes 29 = .ok (.iconst 1, 1) := by decide +kernel
theorem dX12_takes_30 : decode cX12_takes 30 = .ok (.ireturn, 1) := by decide +kernel
theorem dX12_asks_0 : decode cX12_asks 0 = .ok (.aload_n 0, 1) := by decide +kernel
theorem dX12_asks_1 : decode cX12_asks 1 = .ok (.getfield 191, 3) := by decide +kernel
theorem dX12_asks_4 : decode cX12_asks 4 = .ok (.ifCond .ne 20, 3) := by decide +kernel
theorem dX12_asks_7 : decode cX12_asks 7 = .ok (.aload_n 0, 1) := by decide +kernel
theorem dX12_asks_8 : decode cX12_asks 8 = .ok (.aload_n 1, 1) := by decide +kernel
theorem dX12_asks_9 : decode cX12_asks 9 = .ok (.invokevirtual 218, 3) := by decide +kernel
theorem dX12_asks_12 : decode cX12_asks 12 = .ok (.ifCond .ne 12, 3) := by decide +kernel
theorem dX12_asks_15 : decode cX12_asks 15 = .ok (.aload_n 0, 1) := by decide +kernel
theorem dX12_asks_16 : decode cX12_asks 16 = .ok (.iconst 1, 1) := by decide +kernel
theorem dX12_asks_17 : decode cX12_asks 17 = .ok (.aload_n 0, 1) := by decide +kernel
theorem dX12_asks_18 : decode cX12_asks 18 = .ok (.getfield 197, 3) := by decide +kernel
theorem dX12_asks_21 : decode cX12_asks 21 = .ok (.invokevirtual 221, 3) := by decide +kernel
theorem dX12_asks_24 : decode cX12_asks 24 = .ok (.return_, 1) := by decide +kernel
theorem dX12_takesSign_0 : decode cX12_takesSign 0 = .ok (.aload_n 0, 1) := by decide +kernel
theorem dX12_takesSign_1 : decode cX12_takesSign 1 = .ok (.getfield 191, 3) := by decide +kernel
theorem dX12_takesSign_4 : decode cX12_takesSign 4 = .ok (.ifCond .ne 11, 3) := by decide +kernel
theorem dX12_takesSign_7 : decode cX12_takesSign 7 = .ok (.aload_n 0, 1) := by decide +kernel
theorem dX12_takesSign_8 : decode cX12_takesSign 8 = .ok (.invokevirtual 203, 3) := by decide +kernel
theorem dX12_takesSign_11 : decode cX12_takesSign 11 = .ok (.iload_n 1, 1) := by decide +kernel
theorem dX12_takesSign_12 : decode cX12_takesSign 12 = .ok (.if_icmp .eq 5, 3) := by decide +kernel
theorem dX12_takesSign_15 : decode cX12_takesSign 15 = .ok (.iconst 0, 1) := by decide +kernel
theorem dX12_takesSign_16 : decode cX12_takesSign 16 = .ok (.ireturn, 1) := by decide +kernel
theorem dX12_takesSign_17 : decode cX12_takesSign 17 = .ok (.aload_n 0, 1) := by decide +kernel
theorem dX12_takesSign_18 : decode cX12_takesSign 18 = .ok (.dup, 1) := by decide +kernel
theorem dX12_takesSign_19 : decode cX12_takesSign 19 = .ok (.getfield 197, 3) := by decide +kernel
theorem dX12_takesSign_22 : decode cX12_takesSign 22 = .ok (.iconst 1, 1) := by decide +kernel
theorem dX12_takesSign_23 : decode cX12_takesSign 23 = .ok (.iadd, 1) := by decide +kernel
theorem dX12_takesSign_24 : decode cX12_takesSign 24 = .ok (.putfield 197, 3) := by decide +kernel
theorem dX12_takesSign_27 : decode cX12_takesSign 27 = .ok (.iconst 1, 1) := by decide +kernel
theorem dX12_takesSign_28 : decode cX12_takesSign 28 = .ok (.ireturn, 1) := by decide +kernel
theorem dX12_asksSign_0 : decode cX12_asksSign 0 = .ok (.aload_n 0, 1) := by decide +kernel
theorem dX12_asksSign_1 : decode cX12_asksSign 1 = .ok (.getfield 191, 3) := by decide +kernel
theorem dX12_asksSign_4 : decode cX12_asksSign 4 = .ok (.ifCond .ne 20, 3) := by decide +kernel
theorem dX12_asksSign_7 : decode cX12_asksSign 7 = .ok (.aload_n 0, 1) := by decide +kernel
theorem dX12_asksSign_8 : decode cX12_asksSign 8 = .ok (.iload_n 1, 1) := by decide +kernel
theorem dX12_asksSign_9 : decode cX12_asksSign 9 = .ok (.invokevirtual 225, 3) := by decide +kernel
theorem dX12_asksSign_12 : decode cX12_asksSign 12 = .ok (.ifCond .ne 12, 3) := by decide +kernel
theorem dX12_asksSign_15 : decode cX12_asksSign 15 = .ok (.aload_n 0, 1) := by decide +kernel
theorem dX12_asksSign_16 : decode cX12_asksSign 16 = .ok (.iconst 1, 1) := by decide +kernel
theorem dX12_asksSign_17 : decode cX12_asksSign 17 = .ok (.aload_n 0, 1) := by decide +kernel
theorem dX12_asksSign_18 : decode cX12_asksSign 18 = .ok (.getfield 197, 3) := by decide +kernel
theorem dX12_asksSign_21 : decode cX12_asksSign 21 = .ok (.invokevirtual 221, 3) := by decide +kernel
theorem dX12_asksSign_24 : decode cX12_asksSign 24 = .ok (.return_, 1) := by decide +kernel
def v_q_isLetter2 : List Cond := .code yX12_isLetter cX12_isLetter 1 (some .boolean) :: []
set_option maxHeartbeats 4000000 in
set_option maxRecDepth 100000 in
theorem q_isLetter2 (l : Launch) (D : va_G) (y : Nat → ClassId) (sz : Nat) (k : Int32) : Met l yX12_isLetter v_q_isLetter2 ({ frames := 0, cells := 0, slots := 0, locals := 0 } : Room) (va_Pc [.int k] (xPre D (xT y) [] sz)) (va_Qi (fun (r : Int32) (_ : Unit) => (r.toInt = 1 ∧ 97 ≤ k.toInt ∧ k.toInt ≤ 122) ∨ (r.toInt = 0 ∧ (k.toInt < 97 ∨ 122 < k.toInt))) (fun (u : Unit) => xB D (xT y) (va_A [] sz) []) (va_A [] sz)) 0 0 (va_A [] sz) := by
  refine x_meti (cc := cX12_isLetter) (maxL := 1) (by decide) rfl (Nat.le_of_ble_eq_true rfl) ?_
  intro p e s m below meth c A H locs Q hx hb hml hown hts hr hlocks hmn hA hP hK hD hS ls hl hQ
  have hl : lv_has ls 1 [(0, .int k)] := hl
  have kk_97 : (97 : Int32).toInt = 97 := rfl
  have kk_0 : (0 : Int32).toInt = 0 := rfl
  have kk_122 : (122 : Int32).toInt = 122 := rfl
  have kk_1 : (1 : Int32).toInt = 1 := rfl
  refine lv_iload_n hx hb dX12_isLetter_0 rfl (lv_at hl 0 rfl) ?_
  refine lv_bipush (v := 97) hx hb dX12_isLetter_1 (by decide) ?_
  refine lv_icmp_lt (tgt := 16) hx hb dX12_isLetter_3 (by decide) (fun c_1 => ?_) (fun c_1 => ?_)
  · have kc_1 : k.toInt < 97 := by have h9 := c_1; simp only [ge_iff_le, gt_iff_lt, x_lt, x_le, x_eq, ne_eq, Int32.not_lt, Int32.not_le] at h9; simp only [Int32.reduceToInt] at h9; omega
    refine lv_iconst (v := 0) hx hb dX12_isLetter_16 (by decide) ?_
    exact x_zretW (v := 0) (u := ()) hx hb hr hQ rfl (by omega) (x_nilP D H) (x_nilD A) hK hS dX12_isLetter_17 hlocks
  · have kc_1 : k.toInt ≥ 97 := by have h9 := c_1; simp only [ge_iff_le, gt_iff_lt, x_lt, x_le, x_eq, ne_eq, Int32.not_lt, Int32.not_le] at h9; simp only [Int32.reduceToInt] at h9; omega
    refine lv_iload_n hx hb dX12_isLetter_6 rfl (lv_at hl 0 rfl) ?_
    refine lv_bipush (v := 122) hx hb dX12_isLetter_7 (by decide) ?_
    refine lv_icmp_gt (tgt := 16) hx hb dX12_isLetter_9 (by decide) (fun c_2 => ?_) (fun c_2 => ?_)
    · have kc_2 : k.toInt > 122 := by have h9 := c_2; simp only [ge_iff_le, gt_iff_lt, x_lt, x_le, x_eq, ne_eq, Int32.not_lt, Int32.not_le] at h9; simp only [Int32.reduceToInt] at h9; omega
      refine lv_iconst (v := 0) hx hb dX12_isLetter_16 (by decide) ?_
      exact x_zretW (v := 0) (u := ()) hx hb hr hQ rfl (by omega) (x_nilP D H) (x_nilD A) hK hS dX12_isLetter_17 hlocks
    · have kc_2 : k.toInt ≤ 122 := by have h9 := c_2; simp only [ge_iff_le, gt_iff_lt, x_lt, x_le, x_eq, ne_eq, Int32.not_lt, Int32.not_le] at h9; simp only [Int32.reduceToInt] at h9; omega
      refine lv_iconst (v := 1) hx hb dX12_isLetter_12 (by decide) ?_
      refine lv_goto (tgt := 17) hx hb dX12_isLetter_13 (by decide) ?_
      exact x_zretW (v := 1) (u := ()) hx hb hr hQ rfl (by omega) (x_nilP D H) (x_nilD A) hK hS dX12_isLetter_17 hlocks

def v_q_isDigit2 : List Cond := .code yX12_isDigit cX12_isDigit 1 (some .boolean) :: []
set_option maxHeartbeats 4000000 in
set_option maxRecDepth 100000 in
theorem q_isDigit2 (l : Launch) (D : va_G) (y : Nat → ClassId) (sz : Nat) (k : Int32) : Met l yX12_isDigit v_q_isDigit2 ({ frames := 0, cells := 0, slots := 0, locals := 0 } : Room) (va_Pc [.int k] (xPre D (xT y) [] sz)) (va_Qi (fun (r : Int32) (_ : Unit) => (r.toInt = 1 ∧ 48 ≤ k.toInt ∧ k.toInt ≤ 57) ∨ (r.toInt = 0 ∧ (k.toInt < 48 ∨ 57 < k.toInt))) (fun (u : Unit) => xB D (xT y) (va_A [] sz) []) (va_A [] sz)) 0 0 (va_A [] sz) := by
  refine x_meti (cc := cX12_isDigit) (maxL := 1) (by decide) rfl (Nat.le_of_ble_eq_true rfl) ?_
  intro p e s m below meth c A H locs Q hx hb hml hown hts hr hlocks hmn hA hP hK hD hS ls hl hQ
  have hl : lv_has ls 1 [(0, .int k)] := hl
  have kk_48 : (48 : Int32).toInt = 48 := rfl
  have kk_0 : (0 : Int32).toInt = 0 := rfl
  have kk_57 : (57 : Int32).toInt = 57 := rfl
  have kk_1 : (1 : Int32).toInt = 1 := rfl
  refine lv_iload_n hx hb dX12_isDigit_0 rfl (lv_at hl 0 rfl) ?_
  refine lv_bipush (v := 48) hx hb dX12_isDigit_1 (by decide) ?_
  refine lv_icmp_lt (tgt := 16) hx hb dX12_isDigit_3 (by decide) (fun c_1 => ?_) (fun c_1 => ?_)
  · have kc_1 : k.toInt < 48 := by have h9 := c_1; simp only [ge_iff_le, gt_iff_lt, x_lt, x_le, x_eq, ne_eq, Int32.not_lt, Int32.not_le] at h9; simp only [Int32.reduceToInt] at h9; omega
    refine lv_iconst (v := 0) hx hb dX12_isDigit_16 (by decide) ?_
    exact x_zretW (v := 0) (u := ()) hx hb hr hQ rfl (by omega) (x_nilP D H) (x_nilD A) hK hS dX12_isDigit_17 hlocks
  · have kc_1 : k.toInt ≥ 48 := by have h9 := c_1; simp only [ge_iff_le, gt_iff_lt, x_lt, x_le, x_eq, ne_eq, Int32.not_lt, Int32.not_le] at h9; simp only [Int32.reduceToInt] at h9; omega
    refine lv_iload_n hx hb dX12_isDigit_6 rfl (lv_at hl 0 rfl) ?_
    refine lv_bipush (v := 57) hx hb dX12_isDigit_7 (by decide) ?_
    refine lv_icmp_gt (tgt := 16) hx hb dX12_isDigit_9 (by decide) (fun c_2 => ?_) (fun c_2 => ?_)
    · have kc_2 : k.toInt > 57 := by have h9 := c_2; simp only [ge_iff_le, gt_iff_lt, x_lt, x_le, x_eq, ne_eq, Int32.not_lt, Int32.not_le] at h9; simp only [Int32.reduceToInt] at h9; omega
      refine lv_iconst (v := 0) hx hb dX12_isDigit_16 (by decide) ?_
      exact x_zretW (v := 0) (u := ()) hx hb hr hQ rfl (by omega) (x_nilP D H) (x_nilD A) hK hS dX12_isDigit_17 hlocks
    · have kc_2 : k.toInt ≤ 57 := by have h9 := c_2; simp only [ge_iff_le, gt_iff_lt, x_lt, x_le, x_eq, ne_eq, Int32.not_lt, Int32.not_le] at h9; simp only [Int32.reduceToInt] at h9; omega
      refine lv_iconst (v := 1) hx hb dX12_isDigit_12 (by decide) ?_
      refine lv_goto (tgt := 17) hx hb dX12_isDigit_13 (by decide) ?_
      exact x_zretW (v := 1) (u := ()) hx hb hr hQ rfl (by omega) (x_nilP D H) (x_nilD A) hK hS dX12_isDigit_17 hlocks

def v_q_look2 : List Cond := .code yX12_look cX12_look 1 (some .int) :: ([.fieldLink RX12 197 "SlopeRunnerModel" "at" "I", .fieldLink RX12 200 "SlopeRunnerModel" "end" "I", .fieldLink RX12 7 "SlopeRunnerModel" "tape" "[I"] ++ wsX120)
set_option maxHeartbeats 4000000 in
set_option maxRecDepth 100000 in
theorem q_look2 (l : Launch) (D : va_G) (y : Nat → ClassId) (sz : Nat) (ad : Nat → Nat) (zw : Nat → Nat → Int32) (σ : OS) (ha0 : 0 ≤ (σ.1 2).toInt) (ha1 : (σ.1 2).toInt ≤ (σ.1 3).toInt) (ha2 : (σ.1 3).toInt ≤ 700) : Met l yX12_look v_q_look2 ({ frames := 0, cells := 0, slots := 0, locals := 0 } : Room) (va_Pc [.ref (ad 1)] (xPre D (xT y) (mwd y ad zw σ) sz)) (va_Qi (fun (r : Int32) (u : Int32) => (σ.1 2).toInt ≤ u.toInt ∧ u.toInt ≤ (σ.1 3).toInt ∧ (r.toInt = -1 ∨ (u.toInt < (σ.1 3).toInt ∧ r = (σ.2.2.1 0) (Int32.toNatClampNeg u)))) (fun (u : Int32) => xB D (xT y) (va_A (mwd y ad zw σ) sz) (mwd y ad zw (sI σ 2 u))) (va_A (mwd y ad zw σ) sz)) 0 0 (va_A (mwd y ad zw σ) sz) := by
  refine x_meti (cc := cX12_look) (maxL := 1) (by decide) rfl (Nat.le_of_ble_eq_true rfl) ?_
  intro p e s m below meth c A H locs Q hx hb hml hown hts hr hlocks hmn hA hP hK hD hS ls hl hQ
  have hl : lv_has ls 1 [(0, .ref (ad 1))] := hl
  have fl197 := hts (.fieldLink RX12 197 "SlopeRunnerModel" "at" "I") (List.mem_of_getElem? (i := 1) rfl)
  have inX12 : ∀ w ∈ wsX120, w ∈ v_q_look2 := (fun w h => List.mem_cons_of_mem _ (List.mem_append_right _ h))
  have fl200 := hts (.fieldLink RX12 200 "SlopeRunnerModel" "end" "I") (List.mem_of_getElem? (i := 2) rfl)
  have kk_m1 : ((-1) : Int32).toInt = -1 := rfl
  have fl7 := hts (.fieldLink RX12 7 "SlopeRunnerModel" "tape" "[I") (List.mem_of_getElem? (i := 3) rfl)
  have kk_10 : (10 : Int32).toInt = 10 := rfl
  have kk_1 : (1 : Int32).toInt = 1 := rfl
  have kk_32 : (32 : Int32).toInt = 32 := rfl
  have hP : va_P D vwCl (mwd y ad zw (sI σ 2 (σ.1 2))) H := hP
  have hD : va_D A (mwd y ad zw (sI σ 2 (σ.1 2))) := hD
  have loop : ∀ (fu : Nat) (a : Int32) (H : Heap) (locs : List Loc) (ls : Array Slot), ((σ.1 2).toInt ≤ a.toInt) → (a.toInt ≤ (σ.1 3).toInt) → ((σ.1 3).toInt - a.toInt < (fu : Int)) → va_P D vwCl (mwd y ad zw (sI σ 2 a)) H → va_D A (mwd y ad zw (sI σ 2 a)) → va_S A s.heap H locs → lv_has ls 1 [(0, .ref (ad 1))] → W p l e ({ frames := 0, cells := 0, slots := 0, locals := 0 } : Room) s m ([.ref (ad 1)] : List Value).toArray below meth c H locs 0 0 Q (F0 m 0 ls []) := by
    intro fu
    induction fu with
    | zero =>
      intro a H locs ls hl0 hl1 hm
      exact absurd hm (by omega)
    | succ fu ih_loop =>
      intro a H locs ls hl0 hl1 hm hP hD hS hl
      refine lv_aload_n hx hb dX12_look_0 rfl (lv_at hl 0 rfl) ?_
      refine va_get (D := D) (ci := 11) (v := .int a) (C := RX12) (T := TX12) (N := 85) hx hb hts inX12 hown hK hP 0 mwd_o0 rfl 2 (by decide) fl197 (fun _ h9 => h9) rfl dX12_look_1 ?_
      refine lv_aload_n hx hb dX12_look_4 rfl (lv_at hl 0 rfl) ?_
      refine va_get (D := D) (ci := 11) (v := .int (σ.1 3)) (C := RX12) (T := TX12) (N := 85) hx hb hts inX12 hown hK hP 0 mwd_o0 rfl 3 (by decide) fl200 (fun _ h9 => h9) rfl dX12_look_5 ?_
      refine lv_icmp_ge (tgt := 52) hx hb dX12_look_8 (by decide) (fun c_1 => ?_) (fun c_1 => ?_)
      · have kc_1 : a.toInt ≥ (σ.1 3).toInt := by have h9 := c_1; simp only [ge_iff_le, gt_iff_lt, x_lt, x_le, x_eq, ne_eq, Int32.not_lt, Int32.not_le] at h9; omega
        refine lv_aload_n hx hb dX12_look_52 rfl (lv_at hl 0 rfl) ?_
        refine va_get (D := D) (ci := 11) (v := .int a) (C := RX12) (T := TX12) (N := 85) hx hb hts inX12 hown hK hP 0 mwd_o0 rfl 2 (by decide) fl197 (fun _ h9 => h9) rfl dX12_look_53 ?_
        refine lv_aload_n hx hb dX12_look_56 rfl (lv_at hl 0 rfl) ?_
        refine va_get (D := D) (ci := 11) (v := .int (σ.1 3)) (C := RX12) (T := TX12) (N := 85) hx hb hts inX12 hown hK hP 0 mwd_o0 rfl 3 (by decide) fl200 (fun _ h9 => h9) rfl dX12_look_57 ?_
        refine lv_icmp_ge (tgt := 75) hx hb dX12_look_60 (by decide) (fun c_2 => ?_) (fun c_2 => ?_)
        · have kc_2 : a.toInt ≥ (σ.1 3).toInt := by have h9 := c_2; simp only [ge_iff_le, gt_iff_lt, x_lt, x_le, x_eq, ne_eq, Int32.not_lt, Int32.not_le] at h9; omega
          refine lv_iconst (v := (-1)) hx hb dX12_look_75 (by decide) ?_
          exact x_iretW (v := (-1)) (u := a) hx hb hr hQ ⟨by omega, by omega, Or.inl (by omega)⟩ hP hD hK hS dX12_look_76 hlocks
        · have kc_2 : a.toInt < (σ.1 3).toInt := by have h9 := c_2; simp only [ge_iff_le, gt_iff_lt, x_lt, x_le, x_eq, ne_eq, Int32.not_lt, Int32.not_le] at h9; omega
          refine lv_aload_n hx hb dX12_look_63 rfl (lv_at hl 0 rfl) ?_
          refine va_get (D := D) (ci := 11) (v := .ref (ad 0)) (C := RX12) (T := TX12) (N := 85) hx hb hts inX12 hown hK hP 0 mwd_o0 rfl 0 (by decide) fl7 (fun _ h9 => h9) rfl dX12_look_64 ?_
          refine lv_aload_n hx hb dX12_look_67 rfl (lv_at hl 0 rfl) ?_
          refine va_get (D := D) (ci := 11) (v := .int a) (C := RX12) (T := TX12) (N := 85) hx hb hts inX12 hown hK hP 0 mwd_o0 rfl 2 (by decide) fl197 (fun _ h9 => h9) rfl dX12_look_68 ?_
          refine va_iald hx hb hK hP 1 2 mwd_a1 rfl (x_in (by omega) (by omega)) dX12_look_71 ?_
          refine lv_topi (fun i_3 ei_3 => ?_)
          have ei_3 : i_3 = (σ.2.2.1 0) (Int32.toNatClampNeg a) := ei_3
          refine lv_goto (tgt := 76) hx hb dX12_look_72 (by decide) ?_
          exact x_iretW (v := i_3) (u := a) hx hb hr hQ ⟨by omega, by omega, by first | exact Or.inl (by omega) | exact Or.inr ⟨by omega, ei_3⟩⟩ hP hD hK hS dX12_look_76 hlocks
      · have kc_1 : a.toInt < (σ.1 3).toInt := by have h9 := c_1; simp only [ge_iff_le, gt_iff_lt, x_lt, x_le, x_eq, ne_eq, Int32.not_lt, Int32.not_le] at h9; omega
        refine lv_aload_n hx hb dX12_look_11 rfl (lv_at hl 0 rfl) ?_
        refine va_get (D := D) (ci := 11) (v := .ref (ad 0)) (C := RX12) (T := TX12) (N := 85) hx hb hts inX12 hown hK hP 0 mwd_o0 rfl 0 (by decide) fl7 (fun _ h9 => h9) rfl dX12_look_12 ?_
        refine lv_aload_n hx hb dX12_look_15 rfl (lv_at hl 0 rfl) ?_
        refine va_get (D := D) (ci := 11) (v := .int a) (C := RX12) (T := TX12) (N := 85) hx hb hts inX12 hown hK hP 0 mwd_o0 rfl 2 (by decide) fl197 (fun _ h9 => h9) rfl dX12_look_16 ?_
        refine va_iald hx hb hK hP 1 2 mwd_a1 rfl (x_in (by omega) (by omega)) dX12_look_19 ?_
        refine lv_topi (fun i_4 ei_4 => ?_)
        have ei_4 : i_4 = (σ.2.2.1 0) (Int32.toNatClampNeg a) := ei_4
        refine lv_bipush (v := 10) hx hb dX12_look_20 (by decide) ?_
        refine lv_icmp_eq (tgt := 39) hx hb dX12_look_22 (by decide) (fun c_5 => ?_) (fun c_5 => ?_)
        · have kc_5 : i_4.toInt = 10 := by have h9 := c_5; simp only [ge_iff_le, gt_iff_lt, x_lt, x_le, x_eq, ne_eq, Int32.not_lt, Int32.not_le] at h9; simp only [Int32.reduceToInt] at h9; omega
          refine lv_aload_n hx hb dX12_look_39 rfl (lv_at hl 0 rfl) ?_
          refine lv_dup hx hb dX12_look_40 rfl ?_
          refine va_get (D := D) (ci := 11) (v := .int a) (C := RX12) (T := TX12) (N := 85) hx hb hts inX12 hown hK hP 0 mwd_o0 rfl 2 (by decide) fl197 (fun _ h9 => h9) rfl dX12_look_41 ?_
          refine lv_iconst (v := 1) hx hb dX12_look_44 (by decide) ?_
          refine lv_iadd hx hb dX12_look_45 ?_
          refine lv_topi (fun i_6 ei_6 => ?_)
          have vi_6 : i_6.toInt = a.toInt + 1 := by have h9 := x_add ei_6 (by omega) (by omega); omega
          refine va_put (D := D) (ci := 11) (v := .int i_6) (ty := .int) (C := RX12) (T := TX12) (N := 85) hx hb hts inX12 tyX12 tyX12_ok nmX12 hown hK hP hD hS 0 mwd_o0 rfl 2 (by decide) fl197 (fun _ h9 => h9) rfl (by decide +kernel) rfl rfl (Nat.le_of_ble_eq_true rfl) dX12_look_46 (fun H locs hP hD hS => ?_)
          have hP : va_P D vwCl (mwd y ad zw (sI (sI σ 2 a) 2 i_6)) H := x_trP hP mwd_p0_2
          have hD : va_D A (mwd y ad zw (sI (sI σ 2 a) 2 i_6)) := x_trD hD mwd_p0_2
          refine lv_goto (tgt := 0) hx hb dX12_look_49 (by decide) ?_
          have hP : va_P D vwCl (mwd y ad zw (sI σ 2 i_6)) H := hP
          have hD : va_D A (mwd y ad zw (sI σ 2 i_6)) := hD
          exact ih_loop i_6 H locs ls (by omega) (by omega) (by omega) hP hD hS (lv_sub hl [0] rfl)
        · have kc_5 : i_4.toInt ≠ 10 := by have h9 := c_5; simp only [ge_iff_le, gt_iff_lt, x_lt, x_le, x_eq, ne_eq, Int32.not_lt, Int32.not_le] at h9; simp only [Int32.reduceToInt] at h9; omega
          refine lv_aload_n hx hb dX12_look_25 rfl (lv_at hl 0 rfl) ?_
          refine va_get (D := D) (ci := 11) (v := .ref (ad 0)) (C := RX12) (T := TX12) (N := 85) hx hb hts inX12 hown hK hP 0 mwd_o0 rfl 0 (by decide) fl7 (fun _ h9 => h9) rfl dX12_look_26 ?_
          refine lv_aload_n hx hb dX12_look_29 rfl (lv_at hl 0 rfl) ?_
          refine va_get (D := D) (ci := 11) (v := .int a) (C := RX12) (T := TX12) (N := 85) hx hb hts inX12 hown hK hP 0 mwd_o0 rfl 2 (by decide) fl197 (fun _ h9 => h9) rfl dX12_look_30 ?_
          refine va_iald hx hb hK hP 1 2 mwd_a1 rfl (x_in (by omega) (by omega)) dX12_look_33 ?_
          refine lv_topi (fun i_7 ei_7 => ?_)
          have ei_7 : i_7 = (σ.2.2.1 0) (Int32.toNatClampNeg a) := ei_7
          refine lv_bipush (v := 32) hx hb dX12_look_34 (by decide) ?_
          refine lv_icmp_ne (tgt := 52) hx hb dX12_look_36 (by decide) (fun c_8 => ?_) (fun c_8 => ?_)
          · have kc_8 : i_7.toInt ≠ 32 := by have h9 := c_8; simp only [ge_iff_le, gt_iff_lt, x_lt, x_le, x_eq, ne_eq, Int32.not_lt, Int32.not_le] at h9; simp only [Int32.reduceToInt] at h9; omega
            refine lv_aload_n hx hb dX12_look_52 rfl (lv_at hl 0 rfl) ?_
            refine va_get (D := D) (ci := 11) (v := .int a) (C := RX12) (T := TX12) (N := 85) hx hb hts inX12 hown hK hP 0 mwd_o0 rfl 2 (by decide) fl197 (fun _ h9 => h9) rfl dX12_look_53 ?_
            refine lv_aload_n hx hb dX12_look_56 rfl (lv_at hl 0 rfl) ?_
            refine va_get (D := D) (ci := 11) (v := .int (σ.1 3)) (C := RX12) (T := TX12) (N := 85) hx hb hts inX12 hown hK hP 0 mwd_o0 rfl 3 (by decide) fl200 (fun _ h9 => h9) rfl dX12_look_57 ?_
            refine lv_icmp_ge (tgt := 75) hx hb dX12_look_60 (by decide) (fun c_9 => ?_) (fun c_9 => ?_)
            · have kc_9 : a.toInt ≥ (σ.1 3).toInt := by have h9 := c_9; simp only [ge_iff_le, gt_iff_lt, x_lt, x_le, x_eq, ne_eq, Int32.not_lt, Int32.not_le] at h9; omega
              refine lv_iconst (v := (-1)) hx hb dX12_look_75 (by decide) ?_
              exact x_iretW (v := (-1)) (u := a) hx hb hr hQ ⟨by omega, by omega, Or.inl (by omega)⟩ hP hD hK hS dX12_look_76 hlocks
            · have kc_9 : a.toInt < (σ.1 3).toInt := by have h9 := c_9; simp only [ge_iff_le, gt_iff_lt, x_lt, x_le, x_eq, ne_eq, Int32.not_lt, Int32.not_le] at h9; omega
              refine lv_aload_n hx hb dX12_look_63 rfl (lv_at hl 0 rfl) ?_
              refine va_get (D := D) (ci := 11) (v := .ref (ad 0)) (C := RX12) (T := TX12) (N := 85) hx hb hts inX12 hown hK hP 0 mwd_o0 rfl 0 (by decide) fl7 (fun _ h9 => h9) rfl dX12_look_64 ?_
              refine lv_aload_n hx hb dX12_look_67 rfl (lv_at hl 0 rfl) ?_
              refine va_get (D := D) (ci := 11) (v := .int a) (C := RX12) (T := TX12) (N := 85) hx hb hts inX12 hown hK hP 0 mwd_o0 rfl 2 (by decide) fl197 (fun _ h9 => h9) rfl dX12_look_68 ?_
              refine va_iald hx hb hK hP 1 2 mwd_a1 rfl (x_in (by omega) (by omega)) dX12_look_71 ?_
              refine lv_topi (fun i_10 ei_10 => ?_)
              have ei_10 : i_10 = (σ.2.2.1 0) (Int32.toNatClampNeg a) := ei_10
              refine lv_goto (tgt := 76) hx hb dX12_look_72 (by decide) ?_
              exact x_iretW (v := i_10) (u := a) hx hb hr hQ ⟨by omega, by omega, by first | exact Or.inl (by omega) | exact Or.inr ⟨by omega, ei_10⟩⟩ hP hD hK hS dX12_look_76 hlocks
          · have kc_8 : i_7.toInt = 32 := by have h9 := c_8; simp only [ge_iff_le, gt_iff_lt, x_lt, x_le, x_eq, ne_eq, Int32.not_lt, Int32.not_le] at h9; simp only [Int32.reduceToInt] at h9; omega
            refine lv_aload_n hx hb dX12_look_39 rfl (lv_at hl 0 rfl) ?_
            refine lv_dup hx hb dX12_look_40 rfl ?_
            refine va_get (D := D) (ci := 11) (v := .int a) (C := RX12) (T := TX12) (N := 85) hx hb hts inX12 hown hK hP 0 mwd_o0 rfl 2 (by decide) fl197 (fun _ h9 => h9) rfl dX12_look_41 ?_
            refine lv_iconst (v := 1) hx hb dX12_look_44 (by decide) ?_
            refine lv_iadd hx hb dX12_look_45 ?_
            refine lv_topi (fun i_11 ei_11 => ?_)
            have vi_11 : i_11.toInt = a.toInt + 1 := by have h9 := x_add ei_11 (by omega) (by omega); omega
            refine va_put (D := D) (ci := 11) (v := .int i_11) (ty := .int) (C := RX12) (T := TX12) (N := 85) hx hb hts inX12 tyX12 tyX12_ok nmX12 hown hK hP hD hS 0 mwd_o0 rfl 2 (by decide) fl197 (fun _ h9 => h9) rfl (by decide +kernel) rfl rfl (Nat.le_of_ble_eq_true rfl) dX12_look_46 (fun H locs hP hD hS => ?_)
            have hP : va_P D vwCl (mwd y ad zw (sI (sI σ 2 a) 2 i_11)) H := x_trP hP mwd_p0_2
            have hD : va_D A (mwd y ad zw (sI (sI σ 2 a) 2 i_11)) := x_trD hD mwd_p0_2
            refine lv_goto (tgt := 0) hx hb dX12_look_49 (by decide) ?_
            have hP : va_P D vwCl (mwd y ad zw (sI σ 2 i_11)) H := hP
            have hD : va_D A (mwd y ad zw (sI σ 2 i_11)) := hD
            exact ih_loop i_11 H locs ls (by omega) (by omega) (by omega) hP hD hS (lv_sub hl [0] rfl)
  exact loop (700 + 1) (σ.1 2) H locs ls (Int.le_refl _) ha1 (by omega) hP hD hS (lv_sub hl [0] rfl)

def v_q_isHere : List Cond := .code yX12_isHere cX12_isHere 4 (some .boolean) :: ([.fieldLink RX12 191 "SlopeRunnerModel" "bad" "I", .fieldLink RX12 197 "SlopeRunnerModel" "at" "I", .fieldLink RX12 211 "SlopeRunnerModel" "ended" "I", .fieldLink RX12 200 "SlopeRunnerModel" "end" "I", .fieldLink RX12 7 "SlopeRunnerModel" "tape" "[I"] ++ ((wsV RX12 203 RX12 yX12_look v_q_look2) ++ ((wsS RX12 207 yX12_isLetter v_q_isLetter2) ++ wsX120)))
theorem g_q_isHere_0 : GoodIn v_q_isHere (wsV RX12 203 RX12 yX12_look v_q_look2) := goodIn_sub (fun w h => List.mem_cons_of_mem _ (List.mem_append_right _ (List.mem_append_left _ h))) (by decide +kernel)
theorem g_q_isHere_1 : GoodIn v_q_isHere (wsS RX12 207 yX12_isLetter v_q_isLetter2) := goodIn_sub (fun w h => List.mem_cons_of_mem _ (List.mem_append_right _ (List.mem_append_right _ (List.mem_append_left _ h)))) (by decide +kernel)
set_option maxHeartbeats 4000000 in
set_option maxRecDepth 100000 in
theorem q_isHere (l : Launch) (D : va_G) (y : Nat → ClassId) (sz : Nat) (ad : Nat → Nat) (zw : Nat → Nat → Int32) (σ : OS) (aw N jq : Nat) (fw : Nat → Int32) (hq : ∀ τ : OS, (mwd y ad zw τ)[jq]? = some (aw, .inl (y 1, N, .inl fw))) (hN1 : 1 ≤ N) (hN : N ≤ 5) (ha0 : 0 ≤ (σ.1 2).toInt) (ha1 : (σ.1 2).toInt ≤ (σ.1 3).toInt) (ha2 : (σ.1 3).toInt ≤ 700) : Met l yX12_isHere v_q_isHere ({ frames := 1, cells := 0, slots := 0, locals := 20 } : Room) (va_Pc [.ref (ad 1), .ref aw] (xPre D (xT y) (mwd y ad zw σ) sz)) (va_Qi (fun (r : Int32) (u : Int32) => (σ.1 2).toInt ≤ u.toInt ∧ u.toInt ≤ (σ.1 3).toInt ∧ (r.toInt = 0 ∨ (r.toInt = 1 ∧ (σ.1 5).toInt = 0 ∧ u.toInt + N ≤ (σ.1 3).toInt))) (fun (u : Int32) => xB D (xT y) (va_A (mwd y ad zw σ) sz) (mwd y ad zw (sI σ 2 u))) (va_A (mwd y ad zw σ) sz)) 0 0 (va_A (mwd y ad zw σ) sz) := by
  refine x_meti (cc := cX12_isHere) (maxL := 4) (by decide) rfl (Nat.le_of_ble_eq_true rfl) ?_
  intro p e s m below meth c A H locs Q hx hb hml hown hts hr hlocks hmn hA hP hK hD hS ls hl hQ
  have hl : lv_has ls 4 [(0, .ref (ad 1)), (1, .ref aw)] := hl
  have fl191 := hts (.fieldLink RX12 191 "SlopeRunnerModel" "bad" "I") (List.mem_of_getElem? (i := 1) rfl)
  have inX12 : ∀ w ∈ wsX120, w ∈ v_q_isHere := (fun w h => List.mem_cons_of_mem _ (List.mem_append_right _ (List.mem_append_right _ (List.mem_append_right _ h))))
  have kk_0 : (0 : Int32).toInt = 0 := rfl
  have fl197 := hts (.fieldLink RX12 197 "SlopeRunnerModel" "at" "I") (List.mem_of_getElem? (i := 2) rfl)
  have fl211 := hts (.fieldLink RX12 211 "SlopeRunnerModel" "ended" "I") (List.mem_of_getElem? (i := 3) rfl)
  have fl200 := hts (.fieldLink RX12 200 "SlopeRunnerModel" "end" "I") (List.mem_of_getElem? (i := 4) rfl)
  have kk_1 : (1 : Int32).toInt = 1 := rfl
  have fl7 := hts (.fieldLink RX12 7 "SlopeRunnerModel" "tape" "[I") (List.mem_of_getElem? (i := 5) rfl)
  have hNt : (nI N).toInt = (N : Int) := nI_toInt (by omega)
  refine lv_aload_n hx hb dX12_isHere_0 rfl (lv_at hl 0 rfl) ?_
  refine va_get (D := D) (ci := 11) (v := .int (σ.1 5)) (C := RX12) (T := TX12) (N := 85) hx hb hts inX12 hown hK hP 0 mwd_o0 rfl 5 (by decide) fl191 (fun _ h9 => h9) rfl dX12_isHere_1 ?_
  refine lv_if_ne (tgt := 28) hx hb dX12_isHere_4 (by decide) (fun c_1 => ?_) (fun c_1 => ?_)
  · have kc_1 : (σ.1 5).toInt ≠ 0 := by have h9 := c_1; simp only [ge_iff_le, gt_iff_lt, x_lt, x_le, x_eq, ne_eq, Int32.not_lt, Int32.not_le] at h9; simp only [Int32.reduceToInt] at h9; omega
    refine lv_iconst (v := 0) hx hb dX12_isHere_28 (by decide) ?_
    have hP : va_P D vwCl (mwd y ad zw (sI σ 2 (σ.1 2))) H := hP
    have hD : va_D A (mwd y ad zw (sI σ 2 (σ.1 2))) := hD
    exact x_zretW (v := 0) (u := (σ.1 2)) hx hb hr hQ rfl ⟨by omega, by omega, by omega⟩ hP hD hK hS dX12_isHere_29 hlocks
  · have kc_1 : (σ.1 5).toInt = 0 := by have h9 := c_1; simp only [ge_iff_le, gt_iff_lt, x_lt, x_le, x_eq, ne_eq, Int32.not_lt, Int32.not_le] at h9; simp only [Int32.reduceToInt] at h9; omega
    refine lv_aload_n hx hb dX12_isHere_7 rfl (lv_at hl 0 rfl) ?_
    refine x_calliW (va_runV (As := []) (rest := []) ⟨hx, hb, hml, hown, hts⟩ (q_look2 l D y H.size ad zw σ (show 0 ≤ ((σ.1 2)).toInt from by first | omega | decide) (show ((σ.1 2)).toInt ≤ ((σ.1 3)).toInt from by first | omega | decide) (show ((σ.1 3)).toInt ≤ 700 from by first | omega | decide)) (cwV 0 hts g_q_isHere_0 rfl rfl rfl (by decide +kernel) ⟨Nat.le_of_ble_eq_true rfl, Nat.le_of_ble_eq_true rfl⟩) (x_preV (q := (RX12, TX12, 85)) hK hP hD (ci := 11) (q0 := 0) rfl mwd_o0) rfl rfl hl.1 rfl (lv_room (Nat.le_of_ble_eq_true rfl)) dX12_isHere_8 ⟨Nat.le_of_ble_eq_true rfl, Nat.le_of_ble_eq_true rfl⟩) hP hD hS hA (fun r_2 u H locs hw hP hD hS => ?_)
    obtain ⟨n_3, rfl⟩ : ∃ z9, z9 = u := ⟨_, rfl⟩
    try dsimp only at hw
    have hP : va_P D vwCl (mwd y ad zw (sI σ 2 n_3)) H := hP
    have hD : va_D A (mwd y ad zw (sI σ 2 n_3)) := hD
    have hw : ((σ.1 2)).toInt ≤ n_3.toInt ∧ n_3.toInt ≤ ((σ.1 3)).toInt ∧ (r_2.toInt = -1 ∨ (n_3.toInt < ((σ.1 3)).toInt ∧ r_2 = ((σ.2.2.1 0)) (Int32.toNatClampNeg n_3))) := hw
    refine x_calliN (va_runS (As := [.int r_2]) (rest := []) ⟨hx, hb, hml, hown, hts⟩ (q_isLetter2 l D y H.size r_2) (cwS 1 hts g_q_isHere_1 rfl rfl rfl (by decide +kernel) ⟨Nat.le_of_ble_eq_true rfl, Nat.le_of_ble_eq_true rfl⟩) (x_preS hK (x_nilP D H) (x_nilD A)) rfl rfl hl.1 rfl (lv_room (Nat.le_of_ble_eq_true rfl)) dX12_isHere_11 ⟨Nat.le_of_ble_eq_true rfl, Nat.le_of_ble_eq_true rfl⟩) hP hD hS hA (fun r_4 u H locs hw hP hD hS => ?_)
    try dsimp only at hw
    refine lv_if_eq (tgt := 28) hx hb dX12_isHere_14 (by decide) (fun c_5 => ?_) (fun c_5 => ?_)
    · have kc_5 : r_4.toInt = 0 := by have h9 := c_5; simp only [ge_iff_le, gt_iff_lt, x_lt, x_le, x_eq, ne_eq, Int32.not_lt, Int32.not_le] at h9; simp only [Int32.reduceToInt] at h9; omega
      refine lv_iconst (v := 0) hx hb dX12_isHere_28 (by decide) ?_
      exact x_zretW (v := 0) (u := n_3) hx hb hr hQ rfl ⟨by omega, by omega, by omega⟩ hP hD hK hS dX12_isHere_29 hlocks
    · have kc_5 : r_4.toInt ≠ 0 := by have h9 := c_5; simp only [ge_iff_le, gt_iff_lt, x_lt, x_le, x_eq, ne_eq, Int32.not_lt, Int32.not_le] at h9; simp only [Int32.reduceToInt] at h9; omega
      refine lv_aload_n hx hb dX12_isHere_17 rfl (lv_at hl 0 rfl) ?_
      refine va_get (D := D) (ci := 11) (v := .int n_3) (C := RX12) (T := TX12) (N := 85) hx hb hts inX12 hown hK hP 0 mwd_o0 rfl 2 (by decide) fl197 (fun _ h9 => h9) rfl dX12_isHere_18 ?_
      refine lv_aload_n hx hb dX12_isHere_21 rfl (lv_at hl 0 rfl) ?_
      refine va_get (D := D) (ci := 11) (v := .int (σ.1 4)) (C := RX12) (T := TX12) (N := 85) hx hb hts inX12 hown hK hP 0 mwd_o0 rfl 4 (by decide) fl211 (fun _ h9 => h9) rfl dX12_isHere_22 ?_
      refine lv_icmp_ne (tgt := 30) hx hb dX12_isHere_25 (by decide) (fun c_6 => ?_) (fun c_6 => ?_)
      · have kc_6 : n_3.toInt ≠ (σ.1 4).toInt := by have h9 := c_6; simp only [ge_iff_le, gt_iff_lt, x_lt, x_le, x_eq, ne_eq, Int32.not_lt, Int32.not_le] at h9; omega
        refine lv_aload_n hx hb dX12_isHere_30 rfl (lv_at hl 0 rfl) ?_
        refine va_get (D := D) (ci := 11) (v := .int n_3) (C := RX12) (T := TX12) (N := 85) hx hb hts inX12 hown hK hP 0 mwd_o0 rfl 2 (by decide) fl197 (fun _ h9 => h9) rfl dX12_isHere_31 ?_
        refine lv_istore_n (lv' := [(2, .int n_3), (0, .ref (ad 1)), (1, .ref aw)]) hx hb dX12_isHere_34 rfl hl (by decide) rfl (fun ls hl => ?_)
        have loop : ∀ (fu : Nat) (k : Int32) (H : Heap) (locs : List Loc) (ls : Array Slot), (n_3.toInt ≤ k.toInt) → (k.toInt ≤ (σ.1 3).toInt) → ((σ.1 3).toInt - k.toInt < (fu : Int)) → va_P D vwCl (mwd y ad zw (sI σ 2 n_3)) H → va_D A (mwd y ad zw (sI σ 2 n_3)) → va_S A s.heap H locs → lv_has ls 4 [(2, .int k), (1, .ref aw), (0, .ref (ad 1))] → W p l e ({ frames := 1, cells := 0, slots := 0, locals := 20 } : Room) s m ([.ref (ad 1), .ref aw] : List Value).toArray below meth c H locs 0 0 Q (F0 m 35 ls []) := by
          intro fu
          induction fu with
          | zero =>
            intro k H locs ls hk0 hk1 hm
            exact absurd hm (by omega)
          | succ fu ih_loop =>
            intro k H locs ls hk0 hk1 hm hP hD hS hl
            refine lv_iload_n hx hb dX12_isHere_35 rfl (lv_at hl 0 rfl) ?_
            refine lv_aload_n hx hb dX12_isHere_36 rfl (lv_at hl 2 rfl) ?_
            refine va_get (D := D) (ci := 11) (v := .int (σ.1 3)) (C := RX12) (T := TX12) (N := 85) hx hb hts inX12 hown hK hP 0 mwd_o0 rfl 3 (by decide) fl200 (fun _ h9 => h9) rfl dX12_isHere_37 ?_
            refine lv_icmp_ge (tgt := 61) hx hb dX12_isHere_40 (by decide) (fun c_7 => ?_) (fun c_7 => ?_)
            · have kc_7 : k.toInt ≥ (σ.1 3).toInt := by have h9 := c_7; simp only [ge_iff_le, gt_iff_lt, x_lt, x_le, x_eq, ne_eq, Int32.not_lt, Int32.not_le] at h9; omega
              refine lv_iload_n hx hb dX12_isHere_61 rfl (lv_at hl 0 rfl) ?_
              refine lv_aload_n hx hb dX12_isHere_62 rfl (lv_at hl 2 rfl) ?_
              refine va_get (D := D) (ci := 11) (v := .int n_3) (C := RX12) (T := TX12) (N := 85) hx hb hts inX12 hown hK hP 0 mwd_o0 rfl 2 (by decide) fl197 (fun _ h9 => h9) rfl dX12_isHere_63 ?_
              refine lv_isub hx hb dX12_isHere_66 ?_
              refine lv_topi (fun i_8 ei_8 => ?_)
              have vi_8 : i_8.toInt = k.toInt - n_3.toInt := by have h9 := x_sub ei_8 (by omega) (by omega); omega
              refine lv_aload_n hx hb dX12_isHere_67 rfl (lv_at hl 1 rfl) ?_
              refine va_alen hx hb hK hP jq 1 (hq _) rfl (v := (nI N)) rfl dX12_isHere_68 ?_
              refine lv_icmp_eq (tgt := 74) hx hb dX12_isHere_69 (by decide) (fun c_9 => ?_) (fun c_9 => ?_)
              · have kc_9 : i_8.toInt = (nI N).toInt := by have h9 := c_9; simp only [ge_iff_le, gt_iff_lt, x_lt, x_le, x_eq, ne_eq, Int32.not_lt, Int32.not_le] at h9; omega
                refine lv_iconst (v := 0) hx hb dX12_isHere_74 (by decide) ?_
                refine lv_istore_n (lv' := [(3, .int 0), (2, .int k), (1, .ref aw), (0, .ref (ad 1))]) hx hb dX12_isHere_75 rfl hl (by decide) rfl (fun ls hl => ?_)
                have loop2 : ∀ (fu : Nat) (j : Int32) (H : Heap) (locs : List Loc) (ls : Array Slot), (0 ≤ j.toInt) → (j.toInt ≤ N) → ((N : Int) - j.toInt < (fu : Int)) → va_P D vwCl (mwd y ad zw (sI σ 2 n_3)) H → va_D A (mwd y ad zw (sI σ 2 n_3)) → va_S A s.heap H locs → lv_has ls 4 [(3, .int j), (2, .int k), (1, .ref aw), (0, .ref (ad 1))] → W p l e ({ frames := 1, cells := 0, slots := 0, locals := 20 } : Room) s m ([.ref (ad 1), .ref aw] : List Value).toArray below meth c H locs 0 0 Q (F0 m 76 ls []) := by
                  intro fu
                  induction fu with
                  | zero =>
                    intro j H locs ls hj0 hj1 hm
                    exact absurd hm (by omega)
                  | succ fu ih_loop2 =>
                    intro j H locs ls hj0 hj1 hm hP hD hS hl
                    refine lv_iload_n hx hb dX12_isHere_76 rfl (lv_at hl 0 rfl) ?_
                    refine lv_aload_n hx hb dX12_isHere_77 rfl (lv_at hl 2 rfl) ?_
                    refine va_alen hx hb hK hP jq 1 (hq _) rfl (v := (nI N)) rfl dX12_isHere_78 ?_
                    refine lv_icmp_ge (tgt := 107) hx hb dX12_isHere_79 (by decide) (fun c_10 => ?_) (fun c_10 => ?_)
                    · have kc_10 : j.toInt ≥ (nI N).toInt := by have h9 := c_10; simp only [ge_iff_le, gt_iff_lt, x_lt, x_le, x_eq, ne_eq, Int32.not_lt, Int32.not_le] at h9; omega
                      refine lv_iconst (v := 1) hx hb dX12_isHere_107 (by decide) ?_
                      exact x_zretW (v := 1) (u := n_3) hx hb hr hQ rfl ⟨by omega, by omega, by omega⟩ hP hD hK hS dX12_isHere_108 hlocks
                    · have kc_10 : j.toInt < (nI N).toInt := by have h9 := c_10; simp only [ge_iff_le, gt_iff_lt, x_lt, x_le, x_eq, ne_eq, Int32.not_lt, Int32.not_le] at h9; omega
                      refine lv_aload_n hx hb dX12_isHere_82 rfl (lv_at hl 3 rfl) ?_
                      refine va_get (D := D) (ci := 11) (v := .ref (ad 0)) (C := RX12) (T := TX12) (N := 85) hx hb hts inX12 hown hK hP 0 mwd_o0 rfl 0 (by decide) fl7 (fun _ h9 => h9) rfl dX12_isHere_83 ?_
                      refine lv_aload_n hx hb dX12_isHere_86 rfl (lv_at hl 3 rfl) ?_
                      refine va_get (D := D) (ci := 11) (v := .int n_3) (C := RX12) (T := TX12) (N := 85) hx hb hts inX12 hown hK hP 0 mwd_o0 rfl 2 (by decide) fl197 (fun _ h9 => h9) rfl dX12_isHere_87 ?_
                      refine lv_iload_n hx hb dX12_isHere_90 rfl (lv_at hl 0 rfl) ?_
                      refine lv_iadd hx hb dX12_isHere_91 ?_
                      refine lv_topi (fun i_11 ei_11 => ?_)
                      have vi_11 : i_11.toInt = n_3.toInt + j.toInt := by have h9 := x_add ei_11 (by omega) (by omega); omega
                      refine va_iald hx hb hK hP 1 2 mwd_a1 rfl (x_in (by omega) (by omega)) dX12_isHere_92 ?_
                      refine lv_topi (fun i_12 ei_12 => ?_)
                      have ei_12 : i_12 = (σ.2.2.1 0) (Int32.toNatClampNeg i_11) := ei_12
                      refine lv_aload_n hx hb dX12_isHere_93 rfl (lv_at hl 2 rfl) ?_
                      refine lv_iload_n hx hb dX12_isHere_94 rfl (lv_at hl 0 rfl) ?_
                      refine va_cald hx hb hK hP jq 1 (hq _) rfl (x_in (by omega) (by omega)) dX12_isHere_95 ?_
                      refine lv_topi (fun i_13 ei_13 => ?_)
                      have ei_13 : i_13 = fw (Int32.toNatClampNeg j) := ei_13
                      refine lv_icmp_eq (tgt := 101) hx hb dX12_isHere_96 (by decide) (fun c_14 => ?_) (fun c_14 => ?_)
                      · have kc_14 : i_12.toInt = i_13.toInt := by have h9 := c_14; simp only [ge_iff_le, gt_iff_lt, x_lt, x_le, x_eq, ne_eq, Int32.not_lt, Int32.not_le] at h9; omega
                        obtain ⟨i_15, ei_15⟩ : ∃ z9 : Int32, z9 = j + 1 := ⟨_, rfl⟩
                        have vi_15 : i_15.toInt = j.toInt + 1 := by have h9 := x_add ei_15 (by omega) (by omega); omega
                        refine lv_iinc (v := i_15) (lv' := [(3, .int i_15), (2, .int k), (1, .ref aw), (0, .ref (ad 1))]) hx hb dX12_isHere_101 hl (k := 0) rfl (by rw [ei_15]; rfl) (by decide) rfl (fun ls hl => ?_)
                        refine lv_goto (tgt := 76) hx hb dX12_isHere_104 (by decide) ?_
                        exact ih_loop2 i_15 H locs ls (by omega) (by omega) (by omega) hP hD hS (lv_sub hl [0, 1, 2, 3] rfl)
                      · have kc_14 : i_12.toInt ≠ i_13.toInt := by have h9 := c_14; simp only [ge_iff_le, gt_iff_lt, x_lt, x_le, x_eq, ne_eq, Int32.not_lt, Int32.not_le] at h9; omega
                        refine lv_iconst (v := 0) hx hb dX12_isHere_99 (by decide) ?_
                        exact x_zretW (v := 0) (u := n_3) hx hb hr hQ rfl ⟨by omega, by omega, by omega⟩ hP hD hK hS dX12_isHere_100 hlocks
                exact loop2 6 0 H locs ls (by decide) (by have h7 : (0 : Int32).toInt = 0 := rfl; omega) (by have h7 : (0 : Int32).toInt = 0 := rfl; omega) hP hD hS (lv_sub hl [0, 1, 2, 3] rfl)
              · have kc_9 : i_8.toInt ≠ (nI N).toInt := by have h9 := c_9; simp only [ge_iff_le, gt_iff_lt, x_lt, x_le, x_eq, ne_eq, Int32.not_lt, Int32.not_le] at h9; omega
                refine lv_iconst (v := 0) hx hb dX12_isHere_72 (by decide) ?_
                exact x_zretW (v := 0) (u := n_3) hx hb hr hQ rfl ⟨by omega, by omega, by omega⟩ hP hD hK hS dX12_isHere_73 hlocks
            · have kc_7 : k.toInt < (σ.1 3).toInt := by have h9 := c_7; simp only [ge_iff_le, gt_iff_lt, x_lt, x_le, x_eq, ne_eq, Int32.not_lt, Int32.not_le] at h9; omega
              refine lv_aload_n hx hb dX12_isHere_43 rfl (lv_at hl 2 rfl) ?_
              refine va_get (D := D) (ci := 11) (v := .ref (ad 0)) (C := RX12) (T := TX12) (N := 85) hx hb hts inX12 hown hK hP 0 mwd_o0 rfl 0 (by decide) fl7 (fun _ h9 => h9) rfl dX12_isHere_44 ?_
              refine lv_iload_n hx hb dX12_isHere_47 rfl (lv_at hl 0 rfl) ?_
              refine va_iald hx hb hK hP 1 2 mwd_a1 rfl (x_in (by omega) (by omega)) dX12_isHere_48 ?_
              refine lv_topi (fun i_16 ei_16 => ?_)
              have ei_16 : i_16 = (σ.2.2.1 0) (Int32.toNatClampNeg k) := ei_16
              refine x_calliN (va_runS (As := [.int i_16]) (rest := []) ⟨hx, hb, hml, hown, hts⟩ (q_isLetter2 l D y H.size i_16) (cwS 1 hts g_q_isHere_1 rfl rfl rfl (by decide +kernel) ⟨Nat.le_of_ble_eq_true rfl, Nat.le_of_ble_eq_true rfl⟩) (x_preS hK (x_nilP D H) (x_nilD A)) rfl rfl hl.1 rfl (lv_room (Nat.le_of_ble_eq_true rfl)) dX12_isHere_49 ⟨Nat.le_of_ble_eq_true rfl, Nat.le_of_ble_eq_true rfl⟩) hP hD hS hA (fun r_17 u H locs hw hP hD hS => ?_)
              try dsimp only at hw
              refine lv_if_eq (tgt := 61) hx hb dX12_isHere_52 (by decide) (fun c_18 => ?_) (fun c_18 => ?_)
              · have kc_18 : r_17.toInt = 0 := by have h9 := c_18; simp only [ge_iff_le, gt_iff_lt, x_lt, x_le, x_eq, ne_eq, Int32.not_lt, Int32.not_le] at h9; simp only [Int32.reduceToInt] at h9; omega
                refine lv_iload_n hx hb dX12_isHere_61 rfl (lv_at hl 0 rfl) ?_
                refine lv_aload_n hx hb dX12_isHere_62 rfl (lv_at hl 2 rfl) ?_
                refine va_get (D := D) (ci := 11) (v := .int n_3) (C := RX12) (T := TX12) (N := 85) hx hb hts inX12 hown hK hP 0 mwd_o0 rfl 2 (by decide) fl197 (fun _ h9 => h9) rfl dX12_isHere_63 ?_
                refine lv_isub hx hb dX12_isHere_66 ?_
                refine lv_topi (fun i_19 ei_19 => ?_)
                have vi_19 : i_19.toInt = k.toInt - n_3.toInt := by have h9 := x_sub ei_19 (by omega) (by omega); omega
                refine lv_aload_n hx hb dX12_isHere_67 rfl (lv_at hl 1 rfl) ?_
                refine va_alen hx hb hK hP jq 1 (hq _) rfl (v := (nI N)) rfl dX12_isHere_68 ?_
                refine lv_icmp_eq (tgt := 74) hx hb dX12_isHere_69 (by decide) (fun c_20 => ?_) (fun c_20 => ?_)
                · have kc_20 : i_19.toInt = (nI N).toInt := by have h9 := c_20; simp only [ge_iff_le, gt_iff_lt, x_lt, x_le, x_eq, ne_eq, Int32.not_lt, Int32.not_le] at h9; omega
                  refine lv_iconst (v := 0) hx hb dX12_isHere_74 (by decide) ?_
                  refine lv_istore_n (lv' := [(3, .int 0), (2, .int k), (1, .ref aw), (0, .ref (ad 1))]) hx hb dX12_isHere_75 rfl hl (by decide) rfl (fun ls hl => ?_)
                  have loop2 : ∀ (fu : Nat) (j : Int32) (H : Heap) (locs : List Loc) (ls : Array Slot), (0 ≤ j.toInt) → (j.toInt ≤ N) → ((N : Int) - j.toInt < (fu : Int)) → va_P D vwCl (mwd y ad zw (sI σ 2 n_3)) H → va_D A (mwd y ad zw (sI σ 2 n_3)) → va_S A s.heap H locs → lv_has ls 4 [(3, .int j), (2, .int k), (1, .ref aw), (0, .ref (ad 1))] → W p l e ({ frames := 1, cells := 0, slots := 0, locals := 20 } : Room) s m ([.ref (ad 1), .ref aw] : List Value).toArray below meth c H locs 0 0 Q (F0 m 76 ls []) := by
                    intro fu
                    induction fu with
                    | zero =>
                      intro j H locs ls hj0 hj1 hm
                      exact absurd hm (by omega)
                    | succ fu ih_loop2 =>
                      intro j H locs ls hj0 hj1 hm hP hD hS hl
                      refine lv_iload_n hx hb dX12_isHere_76 rfl (lv_at hl 0 rfl) ?_
                      refine lv_aload_n hx hb dX12_isHere_77 rfl (lv_at hl 2 rfl) ?_
                      refine va_alen hx hb hK hP jq 1 (hq _) rfl (v := (nI N)) rfl dX12_isHere_78 ?_
                      refine lv_icmp_ge (tgt := 107) hx hb dX12_isHere_79 (by decide) (fun c_21 => ?_) (fun c_21 => ?_)
                      · have kc_21 : j.toInt ≥ (nI N).toInt := by have h9 := c_21; simp only [ge_iff_le, gt_iff_lt, x_lt, x_le, x_eq, ne_eq, Int32.not_lt, Int32.not_le] at h9; omega
                        refine lv_iconst (v := 1) hx hb dX12_isHere_107 (by decide) ?_
                        exact x_zretW (v := 1) (u := n_3) hx hb hr hQ rfl ⟨by omega, by omega, by omega⟩ hP hD hK hS dX12_isHere_108 hlocks
                      · have kc_21 : j.toInt < (nI N).toInt := by have h9 := c_21; simp only [ge_iff_le, gt_iff_lt, x_lt, x_le, x_eq, ne_eq, Int32.not_lt, Int32.not_le] at h9; omega
                        refine lv_aload_n hx hb dX12_isHere_82 rfl (lv_at hl 3 rfl) ?_
                        refine va_get (D := D) (ci := 11) (v := .ref (ad 0)) (C := RX12) (T := TX12) (N := 85) hx hb hts inX12 hown hK hP 0 mwd_o0 rfl 0 (by decide) fl7 (fun _ h9 => h9) rfl dX12_isHere_83 ?_
                        refine lv_aload_n hx hb dX12_isHere_86 rfl (lv_at hl 3 rfl) ?_
                        refine va_get (D := D) (ci := 11) (v := .int n_3) (C := RX12) (T := TX12) (N := 85) hx hb hts inX12 hown hK hP 0 mwd_o0 rfl 2 (by decide) fl197 (fun _ h9 => h9) rfl dX12_isHere_87 ?_
                        refine lv_iload_n hx hb dX12_isHere_90 rfl (lv_at hl 0 rfl) ?_
                        refine lv_iadd hx hb dX12_isHere_91 ?_
                        refine lv_topi (fun i_22 ei_22 => ?_)
                        have vi_22 : i_22.toInt = n_3.toInt + j.toInt := by have h9 := x_add ei_22 (by omega) (by omega); omega
                        refine va_iald hx hb hK hP 1 2 mwd_a1 rfl (x_in (by omega) (by omega)) dX12_isHere_92 ?_
                        refine lv_topi (fun i_23 ei_23 => ?_)
                        have ei_23 : i_23 = (σ.2.2.1 0) (Int32.toNatClampNeg i_22) := ei_23
                        refine lv_aload_n hx hb dX12_isHere_93 rfl (lv_at hl 2 rfl) ?_
                        refine lv_iload_n hx hb dX12_isHere_94 rfl (lv_at hl 0 rfl) ?_
                        refine va_cald hx hb hK hP jq 1 (hq _) rfl (x_in (by omega) (by omega)) dX12_isHere_95 ?_
                        refine lv_topi (fun i_24 ei_24 => ?_)
                        have ei_24 : i_24 = fw (Int32.toNatClampNeg j) := ei_24
                        refine lv_icmp_eq (tgt := 101) hx hb dX12_isHere_96 (by decide) (fun c_25 => ?_) (fun c_25 => ?_)
                        · have kc_25 : i_23.toInt = i_24.toInt := by have h9 := c_25; simp only [ge_iff_le, gt_iff_lt, x_lt, x_le, x_eq, ne_eq, Int32.not_lt, Int32.not_le] at h9; omega
                          obtain ⟨i_26, ei_26⟩ : ∃ z9 : Int32, z9 = j + 1 := ⟨_, rfl⟩
                          have vi_26 : i_26.toInt = j.toInt + 1 := by have h9 := x_add ei_26 (by omega) (by omega); omega
                          refine lv_iinc (v := i_26) (lv' := [(3, .int i_26), (2, .int k), (1, .ref aw), (0, .ref (ad 1))]) hx hb dX12_isHere_101 hl (k := 0) rfl (by rw [ei_26]; rfl) (by decide) rfl (fun ls hl => ?_)
                          refine lv_goto (tgt := 76) hx hb dX12_isHere_104 (by decide) ?_
                          exact ih_loop2 i_26 H locs ls (by omega) (by omega) (by omega) hP hD hS (lv_sub hl [0, 1, 2, 3] rfl)
                        · have kc_25 : i_23.toInt ≠ i_24.toInt := by have h9 := c_25; simp only [ge_iff_le, gt_iff_lt, x_lt, x_le, x_eq, ne_eq, Int32.not_lt, Int32.not_le] at h9; omega
                          refine lv_iconst (v := 0) hx hb dX12_isHere_99 (by decide) ?_
                          exact x_zretW (v := 0) (u := n_3) hx hb hr hQ rfl ⟨by omega, by omega, by omega⟩ hP hD hK hS dX12_isHere_100 hlocks
                  exact loop2 6 0 H locs ls (by decide) (by have h7 : (0 : Int32).toInt = 0 := rfl; omega) (by have h7 : (0 : Int32).toInt = 0 := rfl; omega) hP hD hS (lv_sub hl [0, 1, 2, 3] rfl)
                · have kc_20 : i_19.toInt ≠ (nI N).toInt := by have h9 := c_20; simp only [ge_iff_le, gt_iff_lt, x_lt, x_le, x_eq, ne_eq, Int32.not_lt, Int32.not_le] at h9; omega
                  refine lv_iconst (v := 0) hx hb dX12_isHere_72 (by decide) ?_
                  exact x_zretW (v := 0) (u := n_3) hx hb hr hQ rfl ⟨by omega, by omega, by omega⟩ hP hD hK hS dX12_isHere_73 hlocks
              · have kc_18 : r_17.toInt ≠ 0 := by have h9 := c_18; simp only [ge_iff_le, gt_iff_lt, x_lt, x_le, x_eq, ne_eq, Int32.not_lt, Int32.not_le] at h9; simp only [Int32.reduceToInt] at h9; omega
                obtain ⟨i_27, ei_27⟩ : ∃ z9 : Int32, z9 = k + 1 := ⟨_, rfl⟩
                have vi_27 : i_27.toInt = k.toInt + 1 := by have h9 := x_add ei_27 (by omega) (by omega); omega
                refine lv_iinc (v := i_27) (lv' := [(2, .int i_27), (1, .ref aw), (0, .ref (ad 1))]) hx hb dX12_isHere_55 hl (k := 0) rfl (by rw [ei_27]; rfl) (by decide) rfl (fun ls hl => ?_)
                refine lv_goto (tgt := 35) hx hb dX12_isHere_58 (by decide) ?_
                exact ih_loop i_27 H locs ls (by omega) (by omega) (by omega) hP hD hS (lv_sub hl [0, 1, 2] rfl)
        exact loop 701 n_3 H locs ls (by omega) (by omega) (by omega) hP hD hS (lv_sub hl [0, 2, 1] rfl)
      · have kc_6 : n_3.toInt = (σ.1 4).toInt := by have h9 := c_6; simp only [ge_iff_le, gt_iff_lt, x_lt, x_le, x_eq, ne_eq, Int32.not_lt, Int32.not_le] at h9; omega
        refine lv_iconst (v := 0) hx hb dX12_isHere_28 (by decide) ?_
        exact x_zretW (v := 0) (u := n_3) hx hb hr hQ rfl ⟨by omega, by omega, by omega⟩ hP hD hK hS dX12_isHere_29 hlocks

def v_q_takes : List Cond := .code yX12_takes cX12_takes 2 (some .boolean) :: ([.fieldLink RX12 197 "SlopeRunnerModel" "at" "I", .fieldLink RX12 211 "SlopeRunnerModel" "ended" "I"] ++ ((wsV RX12 214 RX12 yX12_isHere v_q_isHere) ++ wsX120))
theorem g_q_takes_0 : GoodIn v_q_takes (wsV RX12 214 RX12 yX12_isHere v_q_isHere) := goodIn_sub (fun w h => List.mem_cons_of_mem _ (List.mem_append_right _ (List.mem_append_left _ h))) (by decide +kernel)
set_option maxHeartbeats 4000000 in
set_option maxRecDepth 100000 in
theorem q_takes (l : Launch) (D : va_G) (y : Nat → ClassId) (sz : Nat) (ad : Nat → Nat) (zw : Nat → Nat → Int32) (σ : OS) (aw N jq : Nat) (fw : Nat → Int32) (hq : ∀ τ : OS, (mwd y ad zw τ)[jq]? = some (aw, .inl (y 1, N, .inl fw))) (hN1 : 1 ≤ N) (hN : N ≤ 5) (ha0 : 0 ≤ (σ.1 2).toInt) (ha1 : (σ.1 2).toInt ≤ (σ.1 3).toInt) (ha2 : (σ.1 3).toInt ≤ 700) : Met l yX12_takes v_q_takes ({ frames := 2, cells := 0, slots := 0, locals := 43 } : Room) (va_Pc [.ref (ad 1), .ref aw] (xPre D (xT y) (mwd y ad zw σ) sz)) (va_Qi (fun (r : Int32) (u : Int32 × Int32) => (σ.1 2).toInt ≤ u.1.toInt ∧ u.1.toInt ≤ (σ.1 3).toInt ∧ ((r.toInt = 0 ∧ u.2 = (σ.1 4)) ∨ (r.toInt = 1 ∧ (σ.1 5).toInt = 0 ∧ (σ.1 2).toInt + N ≤ u.1.toInt))) (fun (u : Int32 × Int32) => xB D (xT y) (va_A (mwd y ad zw σ) sz) (mwd y ad zw (sI (sI σ 2 u.1) 4 u.2))) (va_A (mwd y ad zw σ) sz)) 0 0 (va_A (mwd y ad zw σ) sz) := by
  refine x_meti (cc := cX12_takes) (maxL := 2) (by decide) rfl (Nat.le_of_ble_eq_true rfl) ?_
  intro p e s m below meth c A H locs Q hx hb hml hown hts hr hlocks hmn hA hP hK hD hS ls hl hQ
  have hl : lv_has ls 2 [(0, .ref (ad 1)), (1, .ref aw)] := hl
  have kk_0 : (0 : Int32).toInt = 0 := rfl
  have fl197 := hts (.fieldLink RX12 197 "SlopeRunnerModel" "at" "I") (List.mem_of_getElem? (i := 1) rfl)
  have inX12 : ∀ w ∈ wsX120, w ∈ v_q_takes := (fun w h => List.mem_cons_of_mem _ (List.mem_append_right _ (List.mem_append_right _ h)))
  have fl211 := hts (.fieldLink RX12 211 "SlopeRunnerModel" "ended" "I") (List.mem_of_getElem? (i := 2) rfl)
  have kk_1 : (1 : Int32).toInt = 1 := rfl
  have hNt : (nI N).toInt = (N : Int) := nI_toInt (by omega)
  refine lv_aload_n hx hb dX12_takes_0 rfl (lv_at hl 0 rfl) ?_
  refine lv_aload_n hx hb dX12_takes_1 rfl (lv_at hl 1 rfl) ?_
  refine x_calliW (va_runV (As := [.ref aw]) (rest := []) ⟨hx, hb, hml, hown, hts⟩ (q_isHere l D y H.size ad zw σ aw N jq fw hq hN1 hN (show 0 ≤ ((σ.1 2)).toInt from by first | omega | decide) (show ((σ.1 2)).toInt ≤ ((σ.1 3)).toInt from by first | omega | decide) (show ((σ.1 3)).toInt ≤ 700 from by first | omega | decide)) (cwV 1 hts g_q_takes_0 rfl rfl rfl (by decide +kernel) ⟨Nat.le_of_ble_eq_true rfl, Nat.le_of_ble_eq_true rfl⟩) (x_preV (q := (RX12, TX12, 85)) hK hP hD (ci := 11) (q0 := 0) rfl mwd_o0) rfl rfl hl.1 rfl (lv_room (Nat.le_of_ble_eq_true rfl)) dX12_takes_2 ⟨Nat.le_of_ble_eq_true rfl, Nat.le_of_ble_eq_true rfl⟩) hP hD hS hA (fun r_1 u H locs hw hP hD hS => ?_)
  obtain ⟨n_2, rfl⟩ : ∃ z9, z9 = u := ⟨_, rfl⟩
  try dsimp only at hw
  have hP : va_P D vwCl (mwd y ad zw (sI σ 2 n_2)) H := hP
  have hD : va_D A (mwd y ad zw (sI σ 2 n_2)) := hD
  have hw : ((σ.1 2)).toInt ≤ n_2.toInt ∧ n_2.toInt ≤ ((σ.1 3)).toInt ∧ (r_1.toInt = 0 ∨ (r_1.toInt = 1 ∧ ((σ.1 5)).toInt = 0 ∧ n_2.toInt + N ≤ ((σ.1 3)).toInt)) := hw
  refine lv_if_ne (tgt := 10) hx hb dX12_takes_5 (by decide) (fun c_3 => ?_) (fun c_3 => ?_)
  · have kc_3 : r_1.toInt ≠ 0 := by have h9 := c_3; simp only [ge_iff_le, gt_iff_lt, x_lt, x_le, x_eq, ne_eq, Int32.not_lt, Int32.not_le] at h9; simp only [Int32.reduceToInt] at h9; omega
    refine lv_aload_n hx hb dX12_takes_10 rfl (lv_at hl 0 rfl) ?_
    refine lv_dup hx hb dX12_takes_11 rfl ?_
    refine va_get (D := D) (ci := 11) (v := .int n_2) (C := RX12) (T := TX12) (N := 85) hx hb hts inX12 hown hK hP 0 mwd_o0 rfl 2 (by decide) fl197 (fun _ h9 => h9) rfl dX12_takes_12 ?_
    refine lv_aload_n hx hb dX12_takes_15 rfl (lv_at hl 1 rfl) ?_
    refine va_alen hx hb hK hP jq 1 (hq _) rfl (v := (nI N)) rfl dX12_takes_16 ?_
    refine lv_iadd hx hb dX12_takes_17 ?_
    refine lv_topi (fun i_4 ei_4 => ?_)
    have vi_4 : i_4.toInt = n_2.toInt + (nI N).toInt := by have h9 := x_add ei_4 (by omega) (by omega); omega
    refine va_put (D := D) (ci := 11) (v := .int i_4) (ty := .int) (C := RX12) (T := TX12) (N := 85) hx hb hts inX12 tyX12 tyX12_ok nmX12 hown hK hP hD hS 0 mwd_o0 rfl 2 (by decide) fl197 (fun _ h9 => h9) rfl (by decide +kernel) rfl rfl (Nat.le_of_ble_eq_true rfl) dX12_takes_18 (fun H locs hP hD hS => ?_)
    have hP : va_P D vwCl (mwd y ad zw (sI (sI σ 2 n_2) 2 i_4)) H := x_trP hP mwd_p0_2
    have hD : va_D A (mwd y ad zw (sI (sI σ 2 n_2) 2 i_4)) := x_trD hD mwd_p0_2
    refine lv_aload_n hx hb dX12_takes_21 rfl (lv_at hl 0 rfl) ?_
    refine lv_aload_n hx hb dX12_takes_22 rfl (lv_at hl 0 rfl) ?_
    refine va_get (D := D) (ci := 11) (v := .int i_4) (C := RX12) (T := TX12) (N := 85) hx hb hts inX12 hown hK hP 0 mwd_o0 rfl 2 (by decide) fl197 (fun _ h9 => h9) rfl dX12_takes_23 ?_
    refine va_put (D := D) (ci := 11) (v := .int i_4) (ty := .int) (C := RX12) (T := TX12) (N := 85) hx hb hts inX12 tyX12 tyX12_ok nmX12 hown hK hP hD hS 0 mwd_o0 rfl 4 (by decide) fl211 (fun _ h9 => h9) rfl (by decide +kernel) rfl rfl (Nat.le_of_ble_eq_true rfl) dX12_takes_26 (fun H locs hP hD hS => ?_)
    have hP : va_P D vwCl (mwd y ad zw (sI (sI (sI σ 2 n_2) 2 i_4) 4 i_4)) H := x_trP hP mwd_p0_4
    have hD : va_D A (mwd y ad zw (sI (sI (sI σ 2 n_2) 2 i_4) 4 i_4)) := x_trD hD mwd_p0_4
    refine lv_iconst (v := 1) hx hb dX12_takes_29 (by decide) ?_
    have hP : va_P D vwCl (mwd y ad zw (sI (sI σ 2 i_4) 4 i_4)) H := hP
    have hD : va_D A (mwd y ad zw (sI (sI σ 2 i_4) 4 i_4)) := hD
    exact x_zretW (v := 1) (u := (i_4, i_4)) hx hb hr hQ rfl (by (try dsimp only); exact ⟨by omega, by omega, by first | exact Or.inl ⟨by omega, rfl⟩ | exact Or.inr ⟨by omega, by omega, by omega⟩⟩) hP hD hK hS dX12_takes_30 hlocks
  · have kc_3 : r_1.toInt = 0 := by have h9 := c_3; simp only [ge_iff_le, gt_iff_lt, x_lt, x_le, x_eq, ne_eq, Int32.not_lt, Int32.not_le] at h9; simp only [Int32.reduceToInt] at h9; omega
    refine lv_iconst (v := 0) hx hb dX12_takes_8 (by decide) ?_
    have hP : va_P D vwCl (mwd y ad zw (sI (sI σ 2 n_2) 4 (σ.1 4))) H := hP
    have hD : va_D A (mwd y ad zw (sI (sI σ 2 n_2) 4 (σ.1 4))) := hD
    exact x_zretW (v := 0) (u := (n_2, (σ.1 4))) hx hb hr hQ rfl (by (try dsimp only); exact ⟨by omega, by omega, by first | exact Or.inl ⟨by omega, rfl⟩ | exact Or.inr ⟨by omega, by omega, by omega⟩⟩) hP hD hK hS dX12_takes_9 hlocks

def v_q_asks : List Cond := .code yX12_asks cX12_asks 2 none :: ([.fieldLink RX12 191 "SlopeRunnerModel" "bad" "I", .fieldLink RX12 197 "SlopeRunnerModel" "at" "I"] ++ ((wsV RX12 218 RX12 yX12_takes v_q_takes) ++ ((wsV RX12 221 RX12 yX12_fail v_q_fail) ++ wsX120)))
theorem g_q_asks_0 : GoodIn v_q_asks (wsV RX12 218 RX12 yX12_takes v_q_takes) := goodIn_sub (fun w h => List.mem_cons_of_mem _ (List.mem_append_right _ (List.mem_append_left _ h))) (by decide +kernel)
theorem g_q_asks_1 : GoodIn v_q_asks (wsV RX12 221 RX12 yX12_fail v_q_fail) := goodIn_sub (fun w h => List.mem_cons_of_mem _ (List.mem_append_right _ (List.mem_append_right _ (List.mem_append_left _ h)))) (by decide +kernel)
set_option maxHeartbeats 4000000 in
set_option maxRecDepth 100000 in
theorem q_asks (l : Launch) (D : va_G) (y : Nat → ClassId) (sz : Nat) (ad : Nat → Nat) (zw : Nat → Nat → Int32) (σ : OS) (aw N jq : Nat) (fw : Nat → Int32) (hq : ∀ τ : OS, (mwd y ad zw τ)[jq]? = some (aw, .inl (y 1, N, .inl fw))) (hN1 : 1 ≤ N) (hN : N ≤ 5) (ha0 : 0 ≤ (σ.1 2).toInt) (ha1 : (σ.1 2).toInt ≤ (σ.1 3).toInt) (ha2 : (σ.1 3).toInt ≤ 700) : Met l yX12_asks v_q_asks ({ frames := 3, cells := 0, slots := 0, locals := 64 } : Room) (va_Pc [.ref (ad 1), .ref aw] (xPre D (xT y) (mwd y ad zw σ) sz)) (va_Qv (fun (u : Int32 × Int32 × Int32 × Int32) => (σ.1 2).toInt ≤ u.1.toInt ∧ u.1.toInt ≤ (σ.1 3).toInt ∧ (u.2.2.1.toInt = 0 → (σ.1 5).toInt = 0 ∧ (σ.1 2).toInt + N ≤ u.1.toInt)) (fun (u : Int32 × Int32 × Int32 × Int32) => xB D (xT y) (va_A (mwd y ad zw σ) sz) (mwd y ad zw (sI (sI (sI (sI σ 2 u.1) 4 u.2.1) 5 u.2.2.1) 6 u.2.2.2))) (va_A (mwd y ad zw σ) sz)) 0 0 (va_A (mwd y ad zw σ) sz) := by
  refine x_metv (cc := cX12_asks) (maxL := 2) (by decide) rfl (Nat.le_of_ble_eq_true rfl) ?_
  intro p e s m below meth c A H locs Q hx hb hml hown hts hr hlocks hmn hA hP hK hD hS ls hl hQ
  have hl : lv_has ls 2 [(0, .ref (ad 1)), (1, .ref aw)] := hl
  have fl191 := hts (.fieldLink RX12 191 "SlopeRunnerModel" "bad" "I") (List.mem_of_getElem? (i := 1) rfl)
  have inX12 : ∀ w ∈ wsX120, w ∈ v_q_asks := (fun w h => List.mem_cons_of_mem _ (List.mem_append_right _ (List.mem_append_right _ (List.mem_append_right _ h))))
  have kk_0 : (0 : Int32).toInt = 0 := rfl
  have fl197 := hts (.fieldLink RX12 197 "SlopeRunnerModel" "at" "I") (List.mem_of_getElem? (i := 2) rfl)
  have kk_1 : (1 : Int32).toInt = 1 := rfl
  refine lv_aload_n hx hb dX12_asks_0 rfl (lv_at hl 0 rfl) ?_
  refine va_get (D := D) (ci := 11) (v := .int (σ.1 5)) (C := RX12) (T := TX12) (N := 85) hx hb hts inX12 hown hK hP 0 mwd_o0 rfl 5 (by decide) fl191 (fun _ h9 => h9) rfl dX12_asks_1 ?_
  refine lv_if_ne (tgt := 24) hx hb dX12_asks_4 (by decide) (fun c_1 => ?_) (fun c_1 => ?_)
  · have kc_1 : (σ.1 5).toInt ≠ 0 := by have h9 := c_1; simp only [ge_iff_le, gt_iff_lt, x_lt, x_le, x_eq, ne_eq, Int32.not_lt, Int32.not_le] at h9; simp only [Int32.reduceToInt] at h9; omega
    have hP : va_P D vwCl (mwd y ad zw (sI (sI (sI (sI σ 2 (σ.1 2)) 4 (σ.1 4)) 5 (σ.1 5)) 6 (σ.1 6))) H := hP
    have hD : va_D A (mwd y ad zw (sI (sI (sI (sI σ 2 (σ.1 2)) 4 (σ.1 4)) 5 (σ.1 5)) 6 (σ.1 6))) := hD
    exact x_vretW (u := ((σ.1 2), (σ.1 4), (σ.1 5), (σ.1 6))) hx hb hr hQ (by (try dsimp only); exact ⟨by omega, by omega, by omega⟩) hP hD hK hS dX12_asks_24 hlocks
  · have kc_1 : (σ.1 5).toInt = 0 := by have h9 := c_1; simp only [ge_iff_le, gt_iff_lt, x_lt, x_le, x_eq, ne_eq, Int32.not_lt, Int32.not_le] at h9; simp only [Int32.reduceToInt] at h9; omega
    refine lv_aload_n hx hb dX12_asks_7 rfl (lv_at hl 0 rfl) ?_
    refine lv_aload_n hx hb dX12_asks_8 rfl (lv_at hl 1 rfl) ?_
    refine x_calliW (va_runV (As := [.ref aw]) (rest := []) ⟨hx, hb, hml, hown, hts⟩ (q_takes l D y H.size ad zw σ aw N jq fw hq hN1 hN (show 0 ≤ ((σ.1 2)).toInt from by first | omega | decide) (show ((σ.1 2)).toInt ≤ ((σ.1 3)).toInt from by first | omega | decide) (show ((σ.1 3)).toInt ≤ 700 from by first | omega | decide)) (cwV 1 hts g_q_asks_0 rfl rfl rfl (by decide +kernel) ⟨Nat.le_of_ble_eq_true rfl, Nat.le_of_ble_eq_true rfl⟩) (x_preV (q := (RX12, TX12, 85)) hK hP hD (ci := 11) (q0 := 0) rfl mwd_o0) rfl rfl hl.1 rfl (lv_room (Nat.le_of_ble_eq_true rfl)) dX12_asks_9 ⟨Nat.le_of_ble_eq_true rfl, Nat.le_of_ble_eq_true rfl⟩) hP hD hS hA (fun r_2 u H locs hw hP hD hS => ?_)
    obtain ⟨n_3, n_4⟩ := u
    try dsimp only at hw
    have hP : va_P D vwCl (mwd y ad zw (sI (sI σ 2 n_3) 4 n_4)) H := hP
    have hD : va_D A (mwd y ad zw (sI (sI σ 2 n_3) 4 n_4)) := hD
    have hw : ((σ.1 2)).toInt ≤ n_3.toInt ∧ n_3.toInt ≤ ((σ.1 3)).toInt ∧ ((r_2.toInt = 0 ∧ n_4 = ((σ.1 4))) ∨ (r_2.toInt = 1 ∧ ((σ.1 5)).toInt = 0 ∧ ((σ.1 2)).toInt + N ≤ n_3.toInt)) := hw
    refine lv_if_ne (tgt := 24) hx hb dX12_asks_12 (by decide) (fun c_5 => ?_) (fun c_5 => ?_)
    · have kc_5 : r_2.toInt ≠ 0 := by have h9 := c_5; simp only [ge_iff_le, gt_iff_lt, x_lt, x_le, x_eq, ne_eq, Int32.not_lt, Int32.not_le] at h9; simp only [Int32.reduceToInt] at h9; omega
      have hP : va_P D vwCl (mwd y ad zw (sI (sI (sI (sI σ 2 n_3) 4 n_4) 5 (σ.1 5)) 6 (σ.1 6))) H := hP
      have hD : va_D A (mwd y ad zw (sI (sI (sI (sI σ 2 n_3) 4 n_4) 5 (σ.1 5)) 6 (σ.1 6))) := hD
      exact x_vretW (u := (n_3, n_4, (σ.1 5), (σ.1 6))) hx hb hr hQ (by (try dsimp only); exact ⟨by omega, by omega, by omega⟩) hP hD hK hS dX12_asks_24 hlocks
    · have kc_5 : r_2.toInt = 0 := by have h9 := c_5; simp only [ge_iff_le, gt_iff_lt, x_lt, x_le, x_eq, ne_eq, Int32.not_lt, Int32.not_le] at h9; simp only [Int32.reduceToInt] at h9; omega
      refine lv_aload_n hx hb dX12_asks_15 rfl (lv_at hl 0 rfl) ?_
      refine lv_iconst (v := 1) hx hb dX12_asks_16 (by decide) ?_
      refine lv_aload_n hx hb dX12_asks_17 rfl (lv_at hl 0 rfl) ?_
      refine va_get (D := D) (ci := 11) (v := .int n_3) (C := RX12) (T := TX12) (N := 85) hx hb hts inX12 hown hK hP 0 mwd_o0 rfl 2 (by decide) fl197 (fun _ h9 => h9) rfl dX12_asks_18 ?_
      refine x_callvW (va_runV (As := [.int 1, .int n_3]) (rest := []) ⟨hx, hb, hml, hown, hts⟩ (q_fail l D y H.size ad zw (sI (sI σ 2 n_3) 4 n_4) 1 n_3) (cwV 2 hts g_q_asks_1 rfl rfl rfl (by decide +kernel) ⟨Nat.le_of_ble_eq_true rfl, Nat.le_of_ble_eq_true rfl⟩) (x_preV (q := (RX12, TX12, 85)) hK hP hD (ci := 11) (q0 := 0) rfl mwd_o0) rfl rfl hl.1 rfl (lv_room (Nat.le_of_ble_eq_true rfl)) dX12_asks_21 ⟨Nat.le_of_ble_eq_true rfl, Nat.le_of_ble_eq_true rfl⟩) hP hD hS hA (fun u H locs hw hP hD hS => ?_)
      obtain ⟨b_6, b_7⟩ := u
      try dsimp only at hw
      have hP : va_P D vwCl (mwd y ad zw (sI (sI (sI (sI σ 2 n_3) 4 n_4) 5 b_6) 6 b_7)) H := hP
      have hD : va_D A (mwd y ad zw (sI (sI (sI (sI σ 2 n_3) 4 n_4) 5 b_6) 6 b_7)) := hD
      have hw : b_6 = if (σ.1 5) = 0 then 1 else (σ.1 5) := hw
      have hbd : b_6.toInt ≠ 0 := by rw [hw]; split <;> first | decide | (rename_i h9; intro h8; exact h9 (Int32.toInt_inj.mp (by rw [h8]; rfl)))
      exact x_vretW (u := (n_3, n_4, b_6, b_7)) hx hb hr hQ (by (try dsimp only); exact ⟨by omega, by omega, by omega⟩) hP hD hK hS dX12_asks_24 hlocks

def v_q_takesSign : List Cond := .code yX12_takesSign cX12_takesSign 2 (some .boolean) :: ([.fieldLink RX12 191 "SlopeRunnerModel" "bad" "I", .fieldLink RX12 197 "SlopeRunnerModel" "at" "I"] ++ ((wsV RX12 203 RX12 yX12_look v_q_look2) ++ wsX120))
theorem g_q_takesSign_0 : GoodIn v_q_takesSign (wsV RX12 203 RX12 yX12_look v_q_look2) := goodIn_sub (fun w h => List.mem_cons_of_mem _ (List.mem_append_right _ (List.mem_append_left _ h))) (by decide +kernel)
set_option maxHeartbeats 4000000 in
set_option maxRecDepth 100000 in
theorem q_takesSign (l : Launch) (D : va_G) (y : Nat → ClassId) (sz : Nat) (ad : Nat → Nat) (zw : Nat → Nat → Int32) (σ : OS) (k : Int32) (hk : 0 ≤ k.toInt) (ha0 : 0 ≤ (σ.1 2).toInt) (ha1 : (σ.1 2).toInt ≤ (σ.1 3).toInt) (ha2 : (σ.1 3).toInt ≤ 700) : Met l yX12_takesSign v_q_takesSign ({ frames := 1, cells := 0, slots := 0, locals := 20 } : Room) (va_Pc [.ref (ad 1), .int k] (xPre D (xT y) (mwd y ad zw σ) sz)) (va_Qi (fun (r : Int32) (u : Int32) => (σ.1 2).toInt ≤ u.toInt ∧ u.toInt ≤ (σ.1 3).toInt ∧ (r.toInt = 0 ∨ (r.toInt = 1 ∧ (σ.1 5).toInt = 0 ∧ (σ.1 2).toInt + 1 ≤ u.toInt))) (fun (u : Int32) => xB D (xT y) (va_A (mwd y ad zw σ) sz) (mwd y ad zw (sI σ 2 u))) (va_A (mwd y ad zw σ) sz)) 0 0 (va_A (mwd y ad zw σ) sz) := by
  refine x_meti (cc := cX12_takesSign) (maxL := 2) (by decide) rfl (Nat.le_of_ble_eq_true rfl) ?_
  intro p e s m below meth c A H locs Q hx hb hml hown hts hr hlocks hmn hA hP hK hD hS ls hl hQ
  have hl : lv_has ls 2 [(0, .ref (ad 1)), (1, .int k)] := hl
  have fl191 := hts (.fieldLink RX12 191 "SlopeRunnerModel" "bad" "I") (List.mem_of_getElem? (i := 1) rfl)
  have inX12 : ∀ w ∈ wsX120, w ∈ v_q_takesSign := (fun w h => List.mem_cons_of_mem _ (List.mem_append_right _ (List.mem_append_right _ h)))
  have kk_0 : (0 : Int32).toInt = 0 := rfl
  have fl197 := hts (.fieldLink RX12 197 "SlopeRunnerModel" "at" "I") (List.mem_of_getElem? (i := 2) rfl)
  have kk_1 : (1 : Int32).toInt = 1 := rfl
  refine lv_aload_n hx hb dX12_takesSign_0 rfl (lv_at hl 0 rfl) ?_
  refine va_get (D := D) (ci := 11) (v := .int (σ.1 5)) (C := RX12) (T := TX12) (N := 85) hx hb hts inX12 hown hK hP 0 mwd_o0 rfl 5 (by decide) fl191 (fun _ h9 => h9) rfl dX12_takesSign_1 ?_
  refine lv_if_ne (tgt := 15) hx hb dX12_takesSign_4 (by decide) (fun c_1 => ?_) (fun c_1 => ?_)
  · have kc_1 : (σ.1 5).toInt ≠ 0 := by have h9 := c_1; simp only [ge_iff_le, gt_iff_lt, x_lt, x_le, x_eq, ne_eq, Int32.not_lt, Int32.not_le] at h9; simp only [Int32.reduceToInt] at h9; omega
    refine lv_iconst (v := 0) hx hb dX12_takesSign_15 (by decide) ?_
    have hP : va_P D vwCl (mwd y ad zw (sI σ 2 (σ.1 2))) H := hP
    have hD : va_D A (mwd y ad zw (sI σ 2 (σ.1 2))) := hD
    exact x_zretW (v := 0) (u := (σ.1 2)) hx hb hr hQ rfl ⟨by omega, by omega, by omega⟩ hP hD hK hS dX12_takesSign_16 hlocks
  · have kc_1 : (σ.1 5).toInt = 0 := by have h9 := c_1; simp only [ge_iff_le, gt_iff_lt, x_lt, x_le, x_eq, ne_eq, Int32.not_lt, Int32.not_le] at h9; simp only [Int32.reduceToInt] at h9; omega
    refine lv_aload_n hx hb dX12_takesSign_7 rfl (lv_at hl 0 rfl) ?_
    refine x_calliW (va_runV (As := []) (rest := []) ⟨hx, hb, hml, hown, hts⟩ (q_look2 l D y H.size ad zw σ (show 0 ≤ ((σ.1 2)).toInt from by first | omega | decide) (show ((σ.1 2)).toInt ≤ ((σ.1 3)).toInt from by first | omega | decide) (show ((σ.1 3)).toInt ≤ 700 from by first | omega | decide)) (cwV 0 hts g_q_takesSign_0 rfl rfl rfl (by decide +kernel) ⟨Nat.le_of_ble_eq_true rfl, Nat.le_of_ble_eq_true rfl⟩) (x_preV (q := (RX12, TX12, 85)) hK hP hD (ci := 11) (q0 := 0) rfl mwd_o0) rfl rfl hl.1 rfl (lv_room (Nat.le_of_ble_eq_true rfl)) dX12_takesSign_8 ⟨Nat.le_of_ble_eq_true rfl, Nat.le_of_ble_eq_true rfl⟩) hP hD hS hA (fun r_2 u H locs hw hP hD hS => ?_)
    obtain ⟨n_3, rfl⟩ : ∃ z9, z9 = u := ⟨_, rfl⟩
    try dsimp only at hw
    have hP : va_P D vwCl (mwd y ad zw (sI σ 2 n_3)) H := hP
    have hD : va_D A (mwd y ad zw (sI σ 2 n_3)) := hD
    have hw : ((σ.1 2)).toInt ≤ n_3.toInt ∧ n_3.toInt ≤ ((σ.1 3)).toInt ∧ (r_2.toInt = -1 ∨ (n_3.toInt < ((σ.1 3)).toInt ∧ r_2 = ((σ.2.2.1 0)) (Int32.toNatClampNeg n_3))) := hw
    refine lv_iload_n hx hb dX12_takesSign_11 rfl (lv_at hl 1 rfl) ?_
    refine lv_icmp_eq (tgt := 17) hx hb dX12_takesSign_12 (by decide) (fun c_4 => ?_) (fun c_4 => ?_)
    · have kc_4 : r_2.toInt = k.toInt := by have h9 := c_4; simp only [ge_iff_le, gt_iff_lt, x_lt, x_le, x_eq, ne_eq, Int32.not_lt, Int32.not_le] at h9; omega
      refine lv_aload_n hx hb dX12_takesSign_17 rfl (lv_at hl 0 rfl) ?_
      refine lv_dup hx hb dX12_takesSign_18 rfl ?_
      refine va_get (D := D) (ci := 11) (v := .int n_3) (C := RX12) (T := TX12) (N := 85) hx hb hts inX12 hown hK hP 0 mwd_o0 rfl 2 (by decide) fl197 (fun _ h9 => h9) rfl dX12_takesSign_19 ?_
      refine lv_iconst (v := 1) hx hb dX12_takesSign_22 (by decide) ?_
      refine lv_iadd hx hb dX12_takesSign_23 ?_
      refine lv_topi (fun i_5 ei_5 => ?_)
      have vi_5 : i_5.toInt = n_3.toInt + 1 := by have h9 := x_add ei_5 (by omega) (by omega); omega
      refine va_put (D := D) (ci := 11) (v := .int i_5) (ty := .int) (C := RX12) (T := TX12) (N := 85) hx hb hts inX12 tyX12 tyX12_ok nmX12 hown hK hP hD hS 0 mwd_o0 rfl 2 (by decide) fl197 (fun _ h9 => h9) rfl (by decide +kernel) rfl rfl (Nat.le_of_ble_eq_true rfl) dX12_takesSign_24 (fun H locs hP hD hS => ?_)
      have hP : va_P D vwCl (mwd y ad zw (sI (sI σ 2 n_3) 2 i_5)) H := x_trP hP mwd_p0_2
      have hD : va_D A (mwd y ad zw (sI (sI σ 2 n_3) 2 i_5)) := x_trD hD mwd_p0_2
      refine lv_iconst (v := 1) hx hb dX12_takesSign_27 (by decide) ?_
      have hP : va_P D vwCl (mwd y ad zw (sI σ 2 i_5)) H := hP
      have hD : va_D A (mwd y ad zw (sI σ 2 i_5)) := hD
      exact x_zretW (v := 1) (u := i_5) hx hb hr hQ rfl ⟨by omega, by omega, by omega⟩ hP hD hK hS dX12_takesSign_28 hlocks
    · have kc_4 : r_2.toInt ≠ k.toInt := by have h9 := c_4; simp only [ge_iff_le, gt_iff_lt, x_lt, x_le, x_eq, ne_eq, Int32.not_lt, Int32.not_le] at h9; omega
      refine lv_iconst (v := 0) hx hb dX12_takesSign_15 (by decide) ?_
      exact x_zretW (v := 0) (u := n_3) hx hb hr hQ rfl ⟨by omega, by omega, by omega⟩ hP hD hK hS dX12_takesSign_16 hlocks

def v_q_asksSign : List Cond := .code yX12_asksSign cX12_asksSign 2 none :: ([.fieldLink RX12 191 "SlopeRunnerModel" "bad" "I", .fieldLink RX12 197 "SlopeRunnerModel" "at" "I"] ++ ((wsV RX12 225 RX12 yX12_takesSign v_q_takesSign) ++ ((wsV RX12 221 RX12 yX12_fail v_q_fail) ++ wsX120)))
theorem g_q_asksSign_0 : GoodIn v_q_asksSign (wsV RX12 225 RX12 yX12_takesSign v_q_takesSign) := goodIn_sub (fun w h => List.mem_cons_of_mem _ (List.mem_append_right _ (List.mem_append_left _ h))) (by decide +kernel)
theorem g_q_asksSign_1 : GoodIn v_q_asksSign (wsV RX12 221 RX12 yX12_fail v_q_fail) := goodIn_sub (fun w h => List.mem_cons_of_mem _ (List.mem_append_right _ (List.mem_append_right _ (List.mem_append_left _ h)))) (by decide +kernel)
set_option maxHeartbeats 4000000 in
set_option maxRecDepth 100000 in
theorem q_asksSign (l : Launch) (D : va_G) (y : Nat → ClassId) (sz : Nat) (ad : Nat → Nat) (zw : Nat → Nat → Int32) (σ : OS) (k : Int32) (hk : 0 ≤ k.toInt) (ha0 : 0 ≤ (σ.1 2).toInt) (ha1 : (σ.1 2).toInt ≤ (σ.1 3).toInt) (ha2 : (σ.1 3).toInt ≤ 700) : Met l yX12_asksSign v_q_asksSign ({ frames := 2, cells := 0, slots := 0, locals := 41 } : Room) (va_Pc [.ref (ad 1), .int k] (xPre D (xT y) (mwd y ad zw σ) sz)) (va_Qv (fun (u : Int32 × Int32 × Int32) => (σ.1 2).toInt ≤ u.1.toInt ∧ u.1.toInt ≤ (σ.1 3).toInt ∧ (u.2.1.toInt = 0 → (σ.1 5).toInt = 0 ∧ (σ.1 2).toInt + 1 ≤ u.1.toInt)) (fun (u : Int32 × Int32 × Int32) => xB D (xT y) (va_A (mwd y ad zw σ) sz) (mwd y ad zw (sI (sI (sI σ 2 u.1) 5 u.2.1) 6 u.2.2))) (va_A (mwd y ad zw σ) sz)) 0 0 (va_A (mwd y ad zw σ) sz) := by
  refine x_metv (cc := cX12_asksSign) (maxL := 2) (by decide) rfl (Nat.le_of_ble_eq_true rfl) ?_
  intro p e s m below meth c A H locs Q hx hb hml hown hts hr hlocks hmn hA hP hK hD hS ls hl hQ
  have hl : lv_has ls 2 [(0, .ref (ad 1)), (1, .int k)] := hl
  have fl191 := hts (.fieldLink RX12 191 "SlopeRunnerModel" "bad" "I") (List.mem_of_getElem? (i := 1) rfl)
  have inX12 : ∀ w ∈ wsX120, w ∈ v_q_asksSign := (fun w h => List.mem_cons_of_mem _ (List.mem_append_right _ (List.mem_append_right _ (List.mem_append_right _ h))))
  have kk_0 : (0 : Int32).toInt = 0 := rfl
  have fl197 := hts (.fieldLink RX12 197 "SlopeRunnerModel" "at" "I") (List.mem_of_getElem? (i := 2) rfl)
  have kk_1 : (1 : Int32).toInt = 1 := rfl
  refine lv_aload_n hx hb dX12_asksSign_0 rfl (lv_at hl 0 rfl) ?_
  refine va_get (D := D) (ci := 11) (v := .int (σ.1 5)) (C := RX12) (T := TX12) (N := 85) hx hb hts inX12 hown hK hP 0 mwd_o0 rfl 5 (by decide) fl191 (fun _ h9 => h9) rfl dX12_asksSign_1 ?_
  refine lv_if_ne (tgt := 24) hx hb dX12_asksSign_4 (by decide) (fun c_1 => ?_) (fun c_1 => ?_)
  · have kc_1 : (σ.1 5).toInt ≠ 0 := by have h9 := c_1; simp only [ge_iff_le, gt_iff_lt, x_lt, x_le, x_eq, ne_eq, Int32.not_lt, Int32.not_le] at h9; simp only [Int32.reduceToInt] at h9; omega
    have hP : va_P D vwCl (mwd y ad zw (sI (sI (sI σ 2 (σ.1 2)) 5 (σ.1 5)) 6 (σ.1 6))) H := hP
    have hD : va_D A (mwd y ad zw (sI (sI (sI σ 2 (σ.1 2)) 5 (σ.1 5)) 6 (σ.1 6))) := hD
    exact x_vretW (u := ((σ.1 2), (σ.1 5), (σ.1 6))) hx hb hr hQ (by (try dsimp only); exact ⟨by omega, by omega, by omega⟩) hP hD hK hS dX12_asksSign_24 hlocks
  · have kc_1 : (σ.1 5).toInt = 0 := by have h9 := c_1; simp only [ge_iff_le, gt_iff_lt, x_lt, x_le, x_eq, ne_eq, Int32.not_lt, Int32.not_le] at h9; simp only [Int32.reduceToInt] at h9; omega
    refine lv_aload_n hx hb dX12_asksSign_7 rfl (lv_at hl 0 rfl) ?_
    refine lv_iload_n hx hb dX12_asksSign_8 rfl (lv_at hl 1 rfl) ?_
    refine x_calliW (va_runV (As := [.int k]) (rest := []) ⟨hx, hb, hml, hown, hts⟩ (q_takesSign l D y H.size ad zw σ k (by first | omega | decide) (show 0 ≤ ((σ.1 2)).toInt from by first | omega | decide) (show ((σ.1 2)).toInt ≤ ((σ.1 3)).toInt from by first | omega | decide) (show ((σ.1 3)).toInt ≤ 700 from by first | omega | decide)) (cwV 1 hts g_q_asksSign_0 rfl rfl rfl (by decide +kernel) ⟨Nat.le_of_ble_eq_true rfl, Nat.le_of_ble_eq_true rfl⟩) (x_preV (q := (RX12, TX12, 85)) hK hP hD (ci := 11) (q0 := 0) rfl mwd_o0) rfl rfl hl.1 rfl (lv_room (Nat.le_of_ble_eq_true rfl)) dX12_asksSign_9 ⟨Nat.le_of_ble_eq_true rfl, Nat.le_of_ble_eq_true rfl⟩) hP hD hS hA (fun r_2 u H locs hw hP hD hS => ?_)
    obtain ⟨n_3, rfl⟩ : ∃ z9, z9 = u := ⟨_, rfl⟩
    try dsimp only at hw
    have hP : va_P D vwCl (mwd y ad zw (sI σ 2 n_3)) H := hP
    have hD : va_D A (mwd y ad zw (sI σ 2 n_3)) := hD
    have hw : ((σ.1 2)).toInt ≤ n_3.toInt ∧ n_3.toInt ≤ ((σ.1 3)).toInt ∧ (r_2.toInt = 0 ∨ (r_2.toInt = 1 ∧ ((σ.1 5)).toInt = 0 ∧ ((σ.1 2)).toInt + 1 ≤ n_3.toInt)) := hw
    refine lv_if_ne (tgt := 24) hx hb dX12_asksSign_12 (by decide) (fun c_4 => ?_) (fun c_4 => ?_)
    · have kc_4 : r_2.toInt ≠ 0 := by have h9 := c_4; simp only [ge_iff_le, gt_iff_lt, x_lt, x_le, x_eq, ne_eq, Int32.not_lt, Int32.not_le] at h9; simp only [Int32.reduceToInt] at h9; omega
      have hP : va_P D vwCl (mwd y ad zw (sI (sI (sI σ 2 n_3) 5 (σ.1 5)) 6 (σ.1 6))) H := hP
      have hD : va_D A (mwd y ad zw (sI (sI (sI σ 2 n_3) 5 (σ.1 5)) 6 (σ.1 6))) := hD
      exact x_vretW (u := (n_3, (σ.1 5), (σ.1 6))) hx hb hr hQ (by (try dsimp only); exact ⟨by omega, by omega, by omega⟩) hP hD hK hS dX12_asksSign_24 hlocks
    · have kc_4 : r_2.toInt = 0 := by have h9 := c_4; simp only [ge_iff_le, gt_iff_lt, x_lt, x_le, x_eq, ne_eq, Int32.not_lt, Int32.not_le] at h9; simp only [Int32.reduceToInt] at h9; omega
      refine lv_aload_n hx hb dX12_asksSign_15 rfl (lv_at hl 0 rfl) ?_
      refine lv_iconst (v := 1) hx hb dX12_asksSign_16 (by decide) ?_
      refine lv_aload_n hx hb dX12_asksSign_17 rfl (lv_at hl 0 rfl) ?_
      refine va_get (D := D) (ci := 11) (v := .int n_3) (C := RX12) (T := TX12) (N := 85) hx hb hts inX12 hown hK hP 0 mwd_o0 rfl 2 (by decide) fl197 (fun _ h9 => h9) rfl dX12_asksSign_18 ?_
      refine x_callvW (va_runV (As := [.int 1, .int n_3]) (rest := []) ⟨hx, hb, hml, hown, hts⟩ (q_fail l D y H.size ad zw (sI σ 2 n_3) 1 n_3) (cwV 2 hts g_q_asksSign_1 rfl rfl rfl (by decide +kernel) ⟨Nat.le_of_ble_eq_true rfl, Nat.le_of_ble_eq_true rfl⟩) (x_preV (q := (RX12, TX12, 85)) hK hP hD (ci := 11) (q0 := 0) rfl mwd_o0) rfl rfl hl.1 rfl (lv_room (Nat.le_of_ble_eq_true rfl)) dX12_asksSign_21 ⟨Nat.le_of_ble_eq_true rfl, Nat.le_of_ble_eq_true rfl⟩) hP hD hS hA (fun u H locs hw hP hD hS => ?_)
      obtain ⟨b_5, b_6⟩ := u
      try dsimp only at hw
      have hP : va_P D vwCl (mwd y ad zw (sI (sI (sI σ 2 n_3) 5 b_5) 6 b_6)) H := hP
      have hD : va_D A (mwd y ad zw (sI (sI (sI σ 2 n_3) 5 b_5) 6 b_6)) := hD
      have hw : b_5 = if (σ.1 5) = 0 then 1 else (σ.1 5) := hw
      have hbd : b_5.toInt ≠ 0 := by rw [hw]; split <;> first | decide | (rename_i h9; intro h8; exact h9 (Int32.toInt_inj.mp (by rw [h8]; rfl)))
      exact x_vretW (u := (n_3, b_5, b_6)) hx hb hr hQ (by (try dsimp only); exact ⟨by omega, by omega, by omega⟩) hP hD hK hS dX12_asksSign_24 hlocks

