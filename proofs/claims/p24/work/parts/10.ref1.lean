theorem dX12_isIn_0 : decode cX12_isIn 0 = .ok (.lload_n 0, 1) := by decide +kernel
theorem dX12_isIn_1 : decode cX12_isIn 1 = .ok (.lload_n 2, 1) := by decide +kernel
theorem dX12_isIn_2 : decode cX12_isIn 2 = .ok (.lcmp, 1) := by decide +kernel
theorem dX12_isIn_3 : decode cX12_isIn 3 = .ok (.ifCond .lt 14, 3) := by decide +kernel
theorem dX12_isIn_6 : decode cX12_isIn 6 = .ok (.lload_n 0, 1) := by decide +kernel
theorem dX12_isIn_7 : decode cX12_isIn 7 = .ok (.lload 4, 2) := by decide +kernel
theorem dX12_isIn_9 : decode cX12_isIn 9 = .ok (.lcmp, 1) := by decide +kernel
theorem dX12_isIn_10 : decode cX12_isIn 10 = .ok (.ifCond .gt 7, 3) := by decide +kernel
theorem dX12_isIn_13 : decode cX12_isIn 13 = .ok (.iconst 1, 1) := by decide +kernel
theorem dX12_isIn_14 : decode cX12_isIn 14 = .ok (.goto 4, 3) := by decide +kernel
theorem dX12_isIn_17 : decode cX12_isIn 17 = .ok (.iconst 0, 1) := by decide +kernel
theorem dX12_isIn_18 : decode cX12_isIn 18 = .ok (.ireturn, 1) := by decide +kernel
theorem dX12_isLetter_0 : decode cX12_isLetter 0 = .ok (.iload_n 0, 1) := by decide +kernel
theorem dX12_isLetter_1 : decode cX12_isLetter 1 = .ok (.bipush 97, 2) := by decide +kernel
theorem dX12_isLetter_3 : decode cX12_isLetter 3 = .ok (.if_icmp .lt 13, 3) := by decide +kernel
theorem dX12_isLetter_6 : decode cX12_isLetter 6 = .ok (.iload_n 0, 1) := by decide +kernel
theorem dX12_isLetter_7 : decode cX12_isLetter 7 = .ok (.bipush 122, 2) := by decide +kernel
theorem dX12_isLetter_9 : decode cX12_isLetter 9 = .ok (.if_icmp .gt 7, 3) := by decide +kernel
theorem dX12_isLetter_12 : decode cX12_isLetter 12 = .ok (.iconst 1, 1) := by decide +kernel
theorem dX12_isLetter_13 : decode cX12_isLetter 13 = .ok (.goto 4, 3) := by decide +kernel
theorem dX12_isLetter_16 : decode cX12_isLetter 16 = .ok (.iconst 0, 1) := by decide +kernel
theorem dX12_isLetter_17 : decode cX12_isLetter 17 = .ok (.ireturn, 1) := by decide +kernel
theorem dX12_isDigit_0 : decode cX12_isDigit 0 = .ok (.iload_n 0, 1) := by decide +kernel
theorem dX12_isDigit_1 : decode cX12_isDigit 1 = .ok (.bipush 48, 2) := by decide +kernel
theorem dX12_isDigit_3 : decode cX12_isDigit 3 = .ok (.if_icmp .lt 13, 3) := by decide +kernel
theorem dX12_isDigit_6 : decode cX12_isDigit 6 = .ok (.iload_n 0, 1) := by decide +kernel
theorem dX12_isDigit_7 : decode cX12_isDigit 7 = .ok (.bipush 57, 2) := by decide +kernel
theorem dX12_isDigit_9 : decode cX12_isDigit 9 = .ok (.if_icmp .gt 7, 3) := by decide +kernel
theorem dX12_isDigit_12 : decode cX12_isDigit 12 = .ok (.iconst 1, 1) := by decide +kernel
theorem dX12_isDigit_13 : decode cX12_isDigit 13 = .ok (.goto 4, 3) := by decide +kernel
theorem dX12_isDigit_16 : decode cX12_isDigit 16 = .ok (.iconst 0, 1) := by decide +kernel
theorem dX12_isDigit_17 : decode cX12_isDigit 17 = .ok (.ireturn, 1) := by decide +kernel
theorem dX12_fail_0 : decode cX12_fail 0 = .ok (.aload_n 0, 1) := by decide +kernel
theorem dX12_fail_1 : decode cX12_fail 1 = .ok (.getfield 191, 3) := by decide +kernel
theorem dX12_fail_4 : decode cX12_fail 4 = .ok (.ifCond .eq 4, 3) := by decide +kernel
theorem dX12_fail_7 : decode cX12_fail 7 = .ok (.return_, 1) := by decide +kernel
theorem dX12_fail_8 : decode cX12_fail 8 = .ok (.aload_n 0, 1) := by decide +kernel
theorem dX12_fail_9 : decode cX12_fail 9 = .ok (.iload_n 1, 1) := by decide +kernel
theorem dX12_fail_10 : decode cX12_fail 10 = .ok (.putfield 191, 3) := by decide +kernel
theorem dX12_fail_13 : decode cX12_fail 13 = .ok (.aload_n 0, 1) := by decide +kernel
theorem dX12_fail_14 : decode cX12_fail 14 = .ok (.iload_n 2, 1) := by decide +kernel
theorem dX12_fail_15 : decode cX12_fail 15 = .ok (.putfield 194, 3) := by decide +kernel
theorem dX12_fail_18 : decode cX12_fail 18 = .ok (.return_, 1) := by decide +kernel
theorem dX12_look_0 : decode cX12_look 0 = .ok (.aload_n 0, 1) := by decide +kernel
theorem dX12_look_1 : decode cX12_look 1 = .ok (.getfield 197, 3) := by decide +kernel
theorem dX12_look_4 : decode cX12_look 4 = .ok (.aload_n 0, 1) := by decide +kernel
theorem dX12_look_5 : decode cX12_look 5 = .ok (.getfield 200, 3) := by decide +kernel
theorem dX12_look_8 : decode cX12_look 8 = .ok (.if_icmp .ge 44, 3) := by decide +kernel
theorem dX12_look_11 : decode cX12_look 11 = .ok (.aload_n 0, 1) := by decide +kernel
theorem dX12_look_12 : decode cX12_look 12 = .ok (.getfield 7, 3) := by decide +kernel
theorem dX12_look_15 : decode cX12_look 15 = .ok (.aload_n 0, 1) := by decide +kernel
theorem dX12_look_16 : decode cX12_look 16 = .ok (.getfield 197, 3) := by decide +kernel
theorem dX12_look_19 : decode cX12_look 19 = .ok (.iaload, 1) := by decide +kernel
theorem dX12_look_20 : decode cX12_look 20 = .ok (.bipush 10, 2) := by decide +kernel
theorem dX12_look_22 : decode cX12_look 22 = .ok (.if_icmp .eq 17, 3) := by decide +kernel
theorem dX12_look_25 : decode cX12_look 25 = .ok (.aload_n 0, 1) := by decide +kernel
theorem dX12_look_26 : decode cX12_look 26 = .ok (.getfield 7, 3) := by decide +kernel
theorem dX12_look_29 : decode cX12_look 29 = .ok (.aload_n 0, 1) := by decide +kernel
theorem dX12_look_30 : decode cX12_look 30 = .ok (.getfield 197, 3) := by decide +kernel
theorem dX12_look_33 : decode cX12_look 33 = .ok (.iaload, 1) := by decide +kernel
theorem dX12_look_34 : decode cX12_look 34 = .ok (.bipush 32, 2) := by decide +kernel
theorem dX12_look_36 : decode cX12_look 36 = .ok (.if_icmp .ne 16, 3) := by decide +kernel
theorem dX12_look_39 : decode cX12_look 39 = .ok (.aload_n 0, 1) := by decide +kernel
theorem dX12_look_40 : decode cX12_look 40 = .ok (.dup, 1) := by decide +kernel
theorem dX12_look_41 : decode cX12_look 41 = .ok (.getfield 197, 3) := by decide +kernel
theorem dX12_look_44 : decode cX12_look 44 = .ok (.iconst 1, 1) := by decide +kernel
theorem dX12_look_45 : decode cX12_look 45 = .ok (.iadd, 1) := by decide +kernel
theorem dX12_look_46 : decode cX12_look 46 = .ok (.putfield 197, 3) := by decide +kernel
theorem dX12_look_49 : decode cX12_look 49 = .ok (.goto (-49), 3) := by decide +kernel
theorem dX12_look_52 : decode cX12_look 52 = .ok (.aload_n 0, 1) := by decide +kernel
theorem dX12_look_53 : decode cX12_look 53 = .ok (.getfield 197, 3) := by decide +kernel
theorem dX12_look_56 : decode cX12_look 56 = .ok (.aload_n 0, 1) := by decide +kernel
theorem dX12_look_57 : decode cX12_look 57 = .ok (.getfield 200, 3) := by decide +kernel
theorem dX12_look_60 : decode cX12_look 60 = .ok (.if_icmp .ge 15, 3) := by decide +kernel
theorem dX12_look_63 : decode cX12_look 63 = .ok (.aload_n 0, 1) := by decide +kernel
theorem dX12_look_64 : decode cX12_look 64 = .ok (.getfield 7, 3) := by decide +kernel
theorem dX12_look_67 : decode cX12_look 67 = .ok (.aload_n 0, 1) := by decide +kernel
theorem dX12_look_68 : decode cX12_look 68 = .ok (.getfield 197, 3) := by decide +kernel
theorem dX12_look_71 : decode cX12_look 71 = .ok (.iaload, 1) := by decide +kernel
theorem dX12_look_72 : decode cX12_look 72 = .ok (.goto 4, 3) := by decide +kernel
theorem dX12_look_75 : decode cX12_look 75 = .ok (.iconst (-1), 1) := by decide +kernel
theorem dX12_look_76 : decode cX12_look 76 = .ok (.ireturn, 1) := by decide +kernel
theorem dX12_size_0 : decode cX12_size 0 = .ok (.lload_n 0, 1) := by decide +kernel
theorem dX12_size_1 : decode cX12_size 1 = .ok (.lconst 0, 1) := by decide +kernel
theorem dX12_size_2 : decode cX12_size 2 = .ok (.lcmp, 1) := by decide +kernel
theorem dX12_size_3 : decode cX12_size 3 = .ok (.ifCond .ge 8, 3) := by decide +kernel
theorem dX12_size_6 : decode cX12_size 6 = .ok (.lload_n 0, 1) := by decide +kernel
theorem dX12_size_7 : decode cX12_size 7 = .ok (.lneg, 1) := by decide +kernel
theorem dX12_size_8 : decode cX12_size 8 = .ok (.goto 4, 3) := by decide +kernel
theorem dX12_size_11 : decode cX12_size 11 = .ok (.lload_n 0, 1) := by decide +kernel
theorem dX12_size_12 : decode cX12_size 12 = .ok (.lreturn, 1) := by decide +kernel
theorem dX12_common_0 : decode cX12_common 0 = .ok (.lload_n 0, 1) := by decide +kernel
theorem dX12_common_1 : decode cX12_common 1 = .ok (.invokestatic 380, 3) := by decide +kernel
theorem dX12_common_4 : decode cX12_common 4 = .ok (.lstore 4, 2) := by decide +kernel
theorem dX12_common_6 : decode cX12_common 6 = .ok (.lload_n 2, 1) := by decide +kernel
theorem dX12_common_7 : decode cX12_common 7 = .ok (.invokestatic 380, 3) := by decide +kernel
theorem dX12_common_10 : decode cX12_common 10 = .ok (.lstore 6, 2) := by decide +kernel
theorem dX12_common_12 : decode cX12_common 12 = .ok (.lload 6, 2) := by decide +kernel
theorem dX12_common_14 : decode cX12_common 14 = .ok (.lconst 0, 1) := by decide +kernel
theorem dX12_common_15 : decode cX12_common 15 = .ok (.lcmp, 1) := by decide +kernel
theorem dX12_common_16 : decode cX12_common 16 = .ok (.ifCond .le 21, 3) := by decide +kernel
theorem dX12_common_19 : decode cX12_common 19 = .ok (.lload 4, 2) := by decide +kernel
theorem dX12_common_21 : decode cX12_common 21 = .ok (.lload 6, 2) := by decide +kernel
theorem dX12_common_23 : decode cX12_common 23 = .ok (.lrem, 1) := by decide +kernel
theorem dX12_common_24 : decode cX12_common 24 = .ok (.lstore 8, 2) := by decide +kernel
theorem dX12_common_26 : decode cX12_common 26 = .ok (.lload 6, 2) := by decide +kernel
theorem dX12_common_28 : decode cX12_common 28 = .ok (.lstore 4, 2) := by decide +kernel
theorem dX12_common_30 : decode cX12_common 30 = .ok (.lload 8, 2) := by decide +kernel
theorem dX12_common_32 : decode cX12_common 32 = .ok (.lstore 6, 2) := by decide +kernel
theorem dX12_common_34 : decode cX12_common 34 = .ok (.goto (-22), 3) := by decide +kernel
theorem dX12_common_37 : decode cX12_common 37 = .ok (.lload 4, 2) := by decide +kernel
theorem dX12_common_39 : decode cX12_common 39 = .ok (.lreturn, 1) := by decide +kernel
def v_q_isIn : List Cond := .code yX12_isIn cX12_isIn 6 (some .boolean) :: []
set_option maxHeartbeats 4000000 in
set_option maxRecDepth 100000 in
theorem q_isIn (l : Launch) (D : va_G) (y : Nat → ClassId) (sz : Nat) (v a b : Int64) : Met l yX12_isIn v_q_isIn ({ frames := 0, cells := 0, slots := 0, locals := 0 } : Room) (va_Pc [.long v, .long a, .long b] (xPre D (xT y) [] sz)) (va_Qi (fun (r : Int32) (_ : Unit) => (r.toInt = 1 ∧ a.toInt ≤ v.toInt ∧ v.toInt ≤ b.toInt) ∨ (r.toInt = 0 ∧ (v.toInt < a.toInt ∨ b.toInt < v.toInt))) (fun (u : Unit) => xB D (xT y) (va_A [] sz) []) (va_A [] sz)) 0 0 (va_A [] sz) := by
  refine x_meti (cc := cX12_isIn) (maxL := 6) (by decide) rfl (Nat.le_of_ble_eq_true rfl) ?_
  intro p e s m below meth c A H locs Q hx hb hml hown hts hr hlocks hmn hA hP hK hD hS ls hl hQ
  have hl : lv_has ls 6 [(0, .long v), (2, .long a), (4, .long b)] := hl
  have kk_0 : (0 : Int32).toInt = 0 := rfl
  have kk_1 : (1 : Int32).toInt = 1 := rfl
  refine lv_lload_n hx hb dX12_isIn_0 rfl (lv_at hl 0 rfl) ?_
  refine lv_lload_n hx hb dX12_isIn_1 rfl (lv_at hl 1 rfl) ?_
  refine W.lcmp hx hb dX12_isIn_2 ?_
  refine lv_if_lt (tgt := 17) hx hb dX12_isIn_3 (by decide) (fun c_1 => ?_) (fun c_1 => ?_)
  · have kc_1 : v.toInt < a.toInt := by have h9 := x_tri v a; (try simp only [Int64.reduceToInt] at h9); rcases h9 with ⟨g1, g2⟩ | ⟨g1, g2⟩ | ⟨g1, g2⟩ <;> first | omega | (exfalso; rw [g1] at c_1; revert c_1; decide)
    refine lv_iconst (v := 0) hx hb dX12_isIn_17 (by decide) ?_
    exact x_zretW (v := 0) (u := ()) hx hb hr hQ rfl (by omega) (x_nilP D H) (x_nilD A) hK hS dX12_isIn_18 hlocks
  · have kc_1 : v.toInt ≥ a.toInt := by have h9 := x_tri v a; (try simp only [Int64.reduceToInt] at h9); rcases h9 with ⟨g1, g2⟩ | ⟨g1, g2⟩ | ⟨g1, g2⟩ <;> first | omega | (exfalso; rw [g1] at c_1; revert c_1; decide)
    refine lv_lload_n hx hb dX12_isIn_6 rfl (lv_at hl 0 rfl) ?_
    refine lv_lload hx hb dX12_isIn_7 (lv_at hl 2 rfl) ?_
    refine W.lcmp hx hb dX12_isIn_9 ?_
    refine lv_if_gt (tgt := 17) hx hb dX12_isIn_10 (by decide) (fun c_2 => ?_) (fun c_2 => ?_)
    · have kc_2 : v.toInt > b.toInt := by have h9 := x_tri v b; (try simp only [Int64.reduceToInt] at h9); rcases h9 with ⟨g1, g2⟩ | ⟨g1, g2⟩ | ⟨g1, g2⟩ <;> first | omega | (exfalso; rw [g1] at c_2; revert c_2; decide)
      refine lv_iconst (v := 0) hx hb dX12_isIn_17 (by decide) ?_
      exact x_zretW (v := 0) (u := ()) hx hb hr hQ rfl (by omega) (x_nilP D H) (x_nilD A) hK hS dX12_isIn_18 hlocks
    · have kc_2 : v.toInt ≤ b.toInt := by have h9 := x_tri v b; (try simp only [Int64.reduceToInt] at h9); rcases h9 with ⟨g1, g2⟩ | ⟨g1, g2⟩ | ⟨g1, g2⟩ <;> first | omega | (exfalso; rw [g1] at c_2; revert c_2; decide)
      refine lv_iconst (v := 1) hx hb dX12_isIn_13 (by decide) ?_
      refine lv_goto (tgt := 18) hx hb dX12_isIn_14 (by decide) ?_
      exact x_zretW (v := 1) (u := ()) hx hb hr hQ rfl (by omega) (x_nilP D H) (x_nilD A) hK hS dX12_isIn_18 hlocks

def v_q_isLetter : List Cond := .code yX12_isLetter cX12_isLetter 1 (some .boolean) :: []
set_option maxHeartbeats 4000000 in
set_option maxRecDepth 100000 in
theorem q_isLetter (l : Launch) (D : va_G) (y : Nat → ClassId) (sz : Nat) (k : Int32) : Met l yX12_isLetter v_q_isLetter ({ frames := 0, cells := 0, slots := 0, locals := 0 } : Room) (va_Pc [.int k] (xPre D (xT y) [] sz)) (va_Qi (fun (r : Int32) (_ : Unit) => (r.toInt = 1 ∧ 0 ≤ k.toInt) ∨ r.toInt = 0) (fun (u : Unit) => xB D (xT y) (va_A [] sz) []) (va_A [] sz)) 0 0 (va_A [] sz) := by
  refine x_meti (cc := cX12_isLetter) (maxL := 1) (by decide) rfl (Nat.le_of_ble_eq_true rfl) ?_
  intro p e s m below meth c A H locs Q hx hb hml hown hts hr hlocks hmn hA hP hK hD hS ls hl hQ
  have hl : lv_has ls 1 [(0, .int k)] := hl
  have kk_97 : (97 : Int32).toInt = 97 := rfl
  have kk_0 : (0 : Int32).toInt = 0 := rfl
  have kk_122 : (122 : Int32).toInt = 122 := rfl
  have kk_1 : (1 : Int32).toInt = 1 := rfl
  refine lv_iload_n hx hb dX12_isLetter_0 rfl (lv_at hl 0 rfl) ?_
  refine lv_bipush (v := 97) hx hb dX12_isLetter_1 (by decide) ?_
  refine lv_icmp_lt (tgt := 16) hx hb dX12_isLetter_3 (by decide) (fun c_1 => ?_) (fun c_1 => ?_)
  · have kc_1 : k.toInt < 97 := by have h9 := c_1; simp only [ge_iff_le, gt_iff_lt, x_lt, x_le, x_eq, ne_eq, Int32.not_lt, Int32.not_le] at h9; simp only [Int32.reduceToInt] at h9; omega
    refine lv_iconst (v := 0) hx hb dX12_isLetter_16 (by decide) ?_
    exact x_zretW (v := 0) (u := ()) hx hb hr hQ rfl (by omega) (x_nilP D H) (x_nilD A) hK hS dX12_isLetter_17 hlocks
  · have kc_1 : k.toInt ≥ 97 := by have h9 := c_1; simp only [ge_iff_le, gt_iff_lt, x_lt, x_le, x_eq, ne_eq, Int32.not_lt, Int32.not_le] at h9; simp only [Int32.reduceToInt] at h9; omega
    refine lv_iload_n hx hb dX12_isLetter_6 rfl (lv_at hl 0 rfl) ?_
    refine lv_bipush (v := 122) hx hb dX12_isLetter_7 (by decide) ?_
    refine lv_icmp_gt (tgt := 16) hx hb dX12_isLetter_9 (by decide) (fun c_2 => ?_) (fun c_2 => ?_)
    · have kc_2 : k.toInt > 122 := by have h9 := c_2; simp only [ge_iff_le, gt_iff_lt, x_lt, x_le, x_eq, ne_eq, Int32.not_lt, Int32.not_le] at h9; simp only [Int32.reduceToInt] at h9; omega
      refine lv_iconst (v := 0) hx hb dX12_isLetter_16 (by decide) ?_
      exact x_zretW (v := 0) (u := ()) hx hb hr hQ rfl (by omega) (x_nilP D H) (x_nilD A) hK hS dX12_isLetter_17 hlocks
    · have kc_2 : k.toInt ≤ 122 := by have h9 := c_2; simp only [ge_iff_le, gt_iff_lt, x_lt, x_le, x_eq, ne_eq, Int32.not_lt, Int32.not_le] at h9; simp only [Int32.reduceToInt] at h9; omega
      refine lv_iconst (v := 1) hx hb dX12_isLetter_12 (by decide) ?_
      refine lv_goto (tgt := 17) hx hb dX12_isLetter_13 (by decide) ?_
      exact x_zretW (v := 1) (u := ()) hx hb hr hQ rfl (by omega) (x_nilP D H) (x_nilD A) hK hS dX12_isLetter_17 hlocks

def v_q_isDigit : List Cond := .code yX12_isDigit cX12_isDigit 1 (some .boolean) :: []
set_option maxHeartbeats 4000000 in
set_option maxRecDepth 100000 in
theorem q_isDigit (l : Launch) (D : va_G) (y : Nat → ClassId) (sz : Nat) (k : Int32) : Met l yX12_isDigit v_q_isDigit ({ frames := 0, cells := 0, slots := 0, locals := 0 } : Room) (va_Pc [.int k] (xPre D (xT y) [] sz)) (va_Qi (fun (r : Int32) (_ : Unit) => (r.toInt = 1 ∧ 0 ≤ k.toInt) ∨ r.toInt = 0) (fun (u : Unit) => xB D (xT y) (va_A [] sz) []) (va_A [] sz)) 0 0 (va_A [] sz) := by
  refine x_meti (cc := cX12_isDigit) (maxL := 1) (by decide) rfl (Nat.le_of_ble_eq_true rfl) ?_
  intro p e s m below meth c A H locs Q hx hb hml hown hts hr hlocks hmn hA hP hK hD hS ls hl hQ
  have hl : lv_has ls 1 [(0, .int k)] := hl
  have kk_48 : (48 : Int32).toInt = 48 := rfl
  have kk_0 : (0 : Int32).toInt = 0 := rfl
  have kk_57 : (57 : Int32).toInt = 57 := rfl
  have kk_1 : (1 : Int32).toInt = 1 := rfl
  refine lv_iload_n hx hb dX12_isDigit_0 rfl (lv_at hl 0 rfl) ?_
  refine lv_bipush (v := 48) hx hb dX12_isDigit_1 (by decide) ?_
  refine lv_icmp_lt (tgt := 16) hx hb dX12_isDigit_3 (by decide) (fun c_1 => ?_) (fun c_1 => ?_)
  · have kc_1 : k.toInt < 48 := by have h9 := c_1; simp only [ge_iff_le, gt_iff_lt, x_lt, x_le, x_eq, ne_eq, Int32.not_lt, Int32.not_le] at h9; simp only [Int32.reduceToInt] at h9; omega
    refine lv_iconst (v := 0) hx hb dX12_isDigit_16 (by decide) ?_
    exact x_zretW (v := 0) (u := ()) hx hb hr hQ rfl (by omega) (x_nilP D H) (x_nilD A) hK hS dX12_isDigit_17 hlocks
  · have kc_1 : k.toInt ≥ 48 := by have h9 := c_1; simp only [ge_iff_le, gt_iff_lt, x_lt, x_le, x_eq, ne_eq, Int32.not_lt, Int32.not_le] at h9; simp only [Int32.reduceToInt] at h9; omega
    refine lv_iload_n hx hb dX12_isDigit_6 rfl (lv_at hl 0 rfl) ?_
    refine lv_bipush (v := 57) hx hb dX12_isDigit_7 (by decide) ?_
    refine lv_icmp_gt (tgt := 16) hx hb dX12_isDigit_9 (by decide) (fun c_2 => ?_) (fun c_2 => ?_)
    · have kc_2 : k.toInt > 57 := by have h9 := c_2; simp only [ge_iff_le, gt_iff_lt, x_lt, x_le, x_eq, ne_eq, Int32.not_lt, Int32.not_le] at h9; simp only [Int32.reduceToInt] at h9; omega
      refine lv_iconst (v := 0) hx hb dX12_isDigit_16 (by decide) ?_
      exact x_zretW (v := 0) (u := ()) hx hb hr hQ rfl (by omega) (x_nilP D H) (x_nilD A) hK hS dX12_isDigit_17 hlocks
    · have kc_2 : k.toInt ≤ 57 := by have h9 := c_2; simp only [ge_iff_le, gt_iff_lt, x_lt, x_le, x_eq, ne_eq, Int32.not_lt, Int32.not_le] at h9; simp only [Int32.reduceToInt] at h9; omega
      refine lv_iconst (v := 1) hx hb dX12_isDigit_12 (by decide) ?_
      refine lv_goto (tgt := 17) hx hb dX12_isDigit_13 (by decide) ?_
      exact x_zretW (v := 1) (u := ()) hx hb hr hQ rfl (by omega) (x_nilP D H) (x_nilD A) hK hS dX12_isDigit_17 hlocks

def v_q_fail : List Cond := .code yX12_fail cX12_fail 3 none :: ([.fieldLink RX12 191 "SlopeRunnerModel" "bad" "I", .fieldLink RX12 194 "SlopeRunnerModel" "badPlace" "I"] ++ wsX120)
set_option maxHeartbeats 4000000 in
set_option maxRecDepth 100000 in
theorem q_fail (l : Launch) (D : va_G) (y : Nat → ClassId) (sz : Nat) (ad : Nat → Nat) (zw : Nat → Nat → Int32) (σ : OS) (k q : Int32) : Met l yX12_fail v_q_fail ({ frames := 0, cells := 0, slots := 0, locals := 0 } : Room) (va_Pc [.ref (ad 1), .int k, .int q] (xPre D (xT y) (mwd y ad zw σ) sz)) (va_Qv (fun (u : Int32 × Int32) => u.1 = if σ.1 5 = 0 then k else σ.1 5) (fun (u : Int32 × Int32) => xB D (xT y) (va_A (mwd y ad zw σ) sz) (mwd y ad zw (sI (sI σ 5 u.1) 6 u.2))) (va_A (mwd y ad zw σ) sz)) 0 0 (va_A (mwd y ad zw σ) sz) := by
  refine x_metv (cc := cX12_fail) (maxL := 3) (by decide) rfl (Nat.le_of_ble_eq_true rfl) ?_
  intro p e s m below meth c A H locs Q hx hb hml hown hts hr hlocks hmn hA hP hK hD hS ls hl hQ
  have hl : lv_has ls 3 [(0, .ref (ad 1)), (1, .int k), (2, .int q)] := hl
  have fl191 := hts (.fieldLink RX12 191 "SlopeRunnerModel" "bad" "I") (List.mem_of_getElem? (i := 1) rfl)
  have inX12 : ∀ w ∈ wsX120, w ∈ v_q_fail := (fun w h => List.mem_cons_of_mem _ (List.mem_append_right _ h))
  have kk_0 : (0 : Int32).toInt = 0 := rfl
  have fl194 := hts (.fieldLink RX12 194 "SlopeRunnerModel" "badPlace" "I") (List.mem_of_getElem? (i := 2) rfl)
  refine lv_aload_n hx hb dX12_fail_0 rfl (lv_at hl 0 rfl) ?_
  refine va_get (D := D) (ci := 11) (v := .int (σ.1 5)) (C := RX12) (T := TX12) (N := 85) hx hb hts inX12 hown hK hP 0 mwd_o0 rfl 5 (by decide) fl191 (fun _ h9 => h9) rfl dX12_fail_1 ?_
  refine lv_if_eq (tgt := 8) hx hb dX12_fail_4 (by decide) (fun c_1 => ?_) (fun c_1 => ?_)
  · have kc_1 : (σ.1 5).toInt = 0 := by have h9 := c_1; simp only [ge_iff_le, gt_iff_lt, x_lt, x_le, x_eq, ne_eq, Int32.not_lt, Int32.not_le] at h9; simp only [Int32.reduceToInt] at h9; omega
    refine lv_aload_n hx hb dX12_fail_8 rfl (lv_at hl 0 rfl) ?_
    refine lv_iload_n hx hb dX12_fail_9 rfl (lv_at hl 1 rfl) ?_
    refine va_put (D := D) (ci := 11) (v := .int k) (ty := .int) (C := RX12) (T := TX12) (N := 85) hx hb hts inX12 tyX12 tyX12_ok nmX12 hown hK hP hD hS 0 mwd_o0 rfl 5 (by decide) fl191 (fun _ h9 => h9) rfl (by decide +kernel) rfl rfl (Nat.le_of_ble_eq_true rfl) dX12_fail_10 (fun H locs hP hD hS => ?_)
    have hP : va_P D vwCl (mwd y ad zw (sI σ 5 k)) H := x_trP hP mwd_p0_5
    have hD : va_D A (mwd y ad zw (sI σ 5 k)) := x_trD hD mwd_p0_5
    refine lv_aload_n hx hb dX12_fail_13 rfl (lv_at hl 0 rfl) ?_
    refine lv_iload_n hx hb dX12_fail_14 rfl (lv_at hl 2 rfl) ?_
    refine va_put (D := D) (ci := 11) (v := .int q) (ty := .int) (C := RX12) (T := TX12) (N := 85) hx hb hts inX12 tyX12 tyX12_ok nmX12 hown hK hP hD hS 0 mwd_o0 rfl 6 (by decide) fl194 (fun _ h9 => h9) rfl (by decide +kernel) rfl rfl (Nat.le_of_ble_eq_true rfl) dX12_fail_15 (fun H locs hP hD hS => ?_)
    have hP : va_P D vwCl (mwd y ad zw (sI (sI σ 5 k) 6 q)) H := x_trP hP mwd_p0_6
    have hD : va_D A (mwd y ad zw (sI (sI σ 5 k) 6 q)) := x_trD hD mwd_p0_6
    exact x_vretW (u := (k, q)) hx hb hr hQ (by (try dsimp only); exact (by first | exact (if_pos c_1).symm | exact (if_neg c_1).symm | (rw [if_pos (by first | exact c_1 | exact Decidable.not_not.mp c_1)]))) hP hD hK hS dX12_fail_18 hlocks
  · have kc_1 : (σ.1 5).toInt ≠ 0 := by have h9 := c_1; simp only [ge_iff_le, gt_iff_lt, x_lt, x_le, x_eq, ne_eq, Int32.not_lt, Int32.not_le] at h9; simp only [Int32.reduceToInt] at h9; omega
    have hP : va_P D vwCl (mwd y ad zw (sI (sI σ 5 (σ.1 5)) 6 (σ.1 6))) H := hP
    have hD : va_D A (mwd y ad zw (sI (sI σ 5 (σ.1 5)) 6 (σ.1 6))) := hD
    exact x_vretW (u := ((σ.1 5), (σ.1 6))) hx hb hr hQ (by (try dsimp only); exact (by first | exact (if_pos c_1).symm | exact (if_neg c_1).symm | (rw [if_pos (by first | exact c_1 | exact Decidable.not_not.mp c_1)]))) hP hD hK hS dX12_fail_7 hlocks

def v_q_look : List Cond := .code yX12_look cX12_look 1 (some .int) :: ([.fieldLink RX12 197 "SlopeRunnerModel" "at" "I", .fieldLink RX12 200 "SlopeRunnerModel" "end" "I", .fieldLink RX12 7 "SlopeRunnerModel" "tape" "[I"] ++ wsX120)
set_option maxHeartbeats 4000000 in
set_option maxRecDepth 100000 in
theorem q_look (l : Launch) (D : va_G) (y : Nat → ClassId) (sz : Nat) (ad : Nat → Nat) (zw : Nat → Nat → Int32) (σ : OS) (ha0 : 0 ≤ (σ.1 2).toInt) (ha1 : (σ.1 2).toInt ≤ (σ.1 3).toInt) (ha2 : (σ.1 3).toInt ≤ 700) : Met l yX12_look v_q_look ({ frames := 0, cells := 0, slots := 0, locals := 0 } : Room) (va_Pc [.ref (ad 1)] (xPre D (xT y) (mwd y ad zw σ) sz)) (va_Qi (fun (r : Int32) (u : Int32) => (σ.1 2).toInt ≤ u.toInt ∧ u.toInt ≤ (σ.1 3).toInt ∧ (r.toInt = -1 ∨ u.toInt < (σ.1 3).toInt)) (fun (u : Int32) => xB D (xT y) (va_A (mwd y ad zw σ) sz) (mwd y ad zw (sI σ 2 u))) (va_A (mwd y ad zw σ) sz)) 0 0 (va_A (mwd y ad zw σ) sz) := by
  refine x_meti (cc := cX12_look) (maxL := 1) (by decide) rfl (Nat.le_of_ble_eq_true rfl) ?_
  intro p e s m below meth c A H locs Q hx hb hml hown hts hr hlocks hmn hA hP hK hD hS ls hl hQ
  have hl : lv_has ls 1 [(0, .ref (ad 1))] := hl
  have fl197 := hts (.fieldLink RX12 197 "SlopeRunnerModel" "at" "I") (List.mem_of_getElem? (i := 1) rfl)
  have inX12 : ∀ w ∈ wsX120, w ∈ v_q_look := (fun w h => List.mem_cons_of_mem _ (List.mem_append_right _ h))
  have fl200 := hts (.fieldLink RX12 200 "SlopeRunnerModel" "end" "I") (List.mem_of_getElem? (i := 2) rfl)
  have kk_m1 : ((-1) : Int32).toInt = -1 := rfl
  have fl7 := hts (.fieldLink RX12 7 "SlopeRunnerModel" "tape" "[I") (List.mem_of_getElem? (i := 3) rfl)
  have kk_10 : (10 : Int32).toInt = 10 := rfl
  have kk_1 : (1 : Int32).toInt = 1 := rfl
  have kk_32 : (32 : Int32).toInt = 32 := rfl
  have hP : va_P D vwCl (mwd y ad zw (sI σ 2 (σ.1 2))) H := hP
  have hD : va_D A (mwd y ad zw (sI σ 2 (σ.1 2))) := hD
  have loop : ∀ (fu : Nat) (a : Int32) (H : Heap) (locs : List Loc) (ls : Array Slot), ((σ.1 2).toInt ≤ a.toInt) → (a.toInt ≤ (σ.1 3).toInt) → ((σ.1 3).toInt - a.toInt < (fu : Int)) → va_P D vwCl (mwd y ad zw (sI σ 2 a)) H → va_D A (mwd y ad zw (sI σ 2 a)) → va_S A s.heap H locs → lv_has ls 1 [(0, .ref (ad 1))] → W p l e ({ frames := 0, cells := 0, slots := 0, locals := 0 } : Room) s m ([.ref (ad 1)] : List Value).toArray below meth c H locs 0 0 Q (F0 m 0 ls []) := by
    intro fu
    induction fu with
    | zero =>
      intro a H locs ls hl0 hl1 hm
      exact absurd hm (by omega)
    | succ fu ih_loop =>
      intro a H locs ls hl0 hl1 hm hP hD hS hl
      refine lv_aload_n hx hb dX12_look_0 rfl (lv_at hl 0 rfl) ?_
      refine va_get (D := D) (ci := 11) (v := .int a) (C := RX12) (T := TX12) (N := 85) hx hb hts inX12 hown hK hP 0 mwd_o0 rfl 2 (by decide) fl197 (fun _ h9 => h9) rfl dX12_look_1 ?_
      refine lv_aload_n hx hb dX12_look_4 rfl (lv_at hl 0 rfl) ?_
      refine va_get (D := D) (ci := 11) (v := .int (σ.1 3)) (C := RX12) (T := TX12) (N := 85) hx hb hts inX12 hown hK hP 0 mwd_o0 rfl 3 (by decide) fl200 (fun _ h9 => h9) rfl dX12_look_5 ?_
      refine lv_icmp_ge (tgt := 52) hx hb dX12_look_8 (by decide) (fun c_1 => ?_) (fun c_1 => ?_)
      · have kc_1 : a.toInt ≥ (σ.1 3).toInt := by have h9 := c_1; simp only [ge_iff_le, gt_iff_lt, x_lt, x_le, x_eq, ne_eq, Int32.not_lt, Int32.not_le] at h9; omega
        refine lv_aload_n hx hb dX12_look_52 rfl (lv_at hl 0 rfl) ?_
        refine va_get (D := D) (ci := 11) (v := .int a) (C := RX12) (T := TX12) (N := 85) hx hb hts inX12 hown hK hP 0 mwd_o0 rfl 2 (by decide) fl197 (fun _ h9 => h9) rfl dX12_look_53 ?_
        refine lv_aload_n hx hb dX12_look_56 rfl (lv_at hl 0 rfl) ?_
        refine va_get (D := D) (ci := 11) (v := .int (σ.1 3)) (C := RX12) (T := TX12) (N := 85) hx hb hts inX12 hown hK hP 0 mwd_o0 rfl 3 (by decide) fl200 (fun _ h9 => h9) rfl dX12_look_57 ?_
        refine lv_icmp_ge (tgt := 75) hx hb dX12_look_60 (by decide) (fun c_2 => ?_) (fun c_2 => ?_)
        · have kc_2 : a.toInt ≥ (σ.1 3).toInt := by have h9 := c_2; simp only [ge_iff_le, gt_iff_lt, x_lt, x_le, x_eq, ne_eq, Int32.not_lt, Int32.not_le] at h9; omega
          refine lv_iconst (v := (-1)) hx hb dX12_look_75 (by decide) ?_
          exact x_iretW (v := (-1)) (u := a) hx hb hr hQ ⟨by omega, by omega, by omega⟩ hP hD hK hS dX12_look_76 hlocks
        · have kc_2 : a.toInt < (σ.1 3).toInt := by have h9 := c_2; simp only [ge_iff_le, gt_iff_lt, x_lt, x_le, x_eq, ne_eq, Int32.not_lt, Int32.not_le] at h9; omega
          refine lv_aload_n hx hb dX12_look_63 rfl (lv_at hl 0 rfl) ?_
          refine va_get (D := D) (ci := 11) (v := .ref (ad 0)) (C := RX12) (T := TX12) (N := 85) hx hb hts inX12 hown hK hP 0 mwd_o0 rfl 0 (by decide) fl7 (fun _ h9 => h9) rfl dX12_look_64 ?_
          refine lv_aload_n hx hb dX12_look_67 rfl (lv_at hl 0 rfl) ?_
          refine va_get (D := D) (ci := 11) (v := .int a) (C := RX12) (T := TX12) (N := 85) hx hb hts inX12 hown hK hP 0 mwd_o0 rfl 2 (by decide) fl197 (fun _ h9 => h9) rfl dX12_look_68 ?_
          refine va_iald hx hb hK hP 1 2 mwd_a1 rfl (x_in (by omega) (by omega)) dX12_look_71 ?_
          refine lv_topi (fun i_3 ei_3 => ?_)
          have ei_3 : i_3 = (σ.2.2.1 0) (Int32.toNatClampNeg a) := ei_3
          refine lv_goto (tgt := 76) hx hb dX12_look_72 (by decide) ?_
          exact x_iretW (v := i_3) (u := a) hx hb hr hQ ⟨by omega, by omega, by omega⟩ hP hD hK hS dX12_look_76 hlocks
      · have kc_1 : a.toInt < (σ.1 3).toInt := by have h9 := c_1; simp only [ge_iff_le, gt_iff_lt, x_lt, x_le, x_eq, ne_eq, Int32.not_lt, Int32.not_le] at h9; omega
        refine lv_aload_n hx hb dX12_look_11 rfl (lv_at hl 0 rfl) ?_
        refine va_get (D := D) (ci := 11) (v := .ref (ad 0)) (C := RX12) (T := TX12) (N := 85) hx hb hts inX12 hown hK hP 0 mwd_o0 rfl 0 (by decide) fl7 (fun _ h9 => h9) rfl dX12_look_12 ?_
        refine lv_aload_n hx hb dX12_look_15 rfl (lv_at hl 0 rfl) ?_
        refine va_get (D := D) (ci := 11) (v := .int a) (C := RX12) (T := TX12) (N := 85) hx hb hts inX12 hown hK hP 0 mwd_o0 rfl 2 (by decide) fl197 (fun _ h9 => h9) rfl dX12_look_16 ?_
        refine va_iald hx hb hK hP 1 2 mwd_a1 rfl (x_in (by omega) (by omega)) dX12_look_19 ?_
        refine lv_topi (fun i_4 ei_4 => ?_)
        have ei_4 : i_4 = (σ.2.2.1 0) (Int32.toNatClampNeg a) := ei_4
        refine lv_bipush (v := 10) hx hb dX12_look_20 (by decide) ?_
        refine lv_icmp_eq (tgt := 39) hx hb dX12_look_22 (by decide) (fun c_5 => ?_) (fun c_5 => ?_)
        · have kc_5 : i_4.toInt = 10 := by have h9 := c_5; simp only [ge_iff_le, gt_iff_lt, x_lt, x_le, x_eq, ne_eq, Int32.not_lt, Int32.not_le] at h9; simp only [Int32.reduceToInt] at h9; omega
          refine lv_aload_n hx hb dX12_look_39 rfl (lv_at hl 0 rfl) ?_
          refine lv_dup hx hb dX12_look_40 rfl ?_
          refine va_get (D := D) (ci := 11) (v := .int a) (C := RX12) (T := TX12) (N := 85) hx hb hts inX12 hown hK hP 0 mwd_o0 rfl 2 (by decide) fl197 (fun _ h9 => h9) rfl dX12_look_41 ?_
          refine lv_iconst (v := 1) hx hb dX12_look_44 (by decide) ?_
          refine lv_iadd hx hb dX12_look_45 ?_
          refine lv_topi (fun i_6 ei_6 => ?_)
          have vi_6 : i_6.toInt = a.toInt + 1 := by have h9 := x_add ei_6 (by omega) (by omega); omega
          refine va_put (D := D) (ci := 11) (v := .int i_6) (ty := .int) (C := RX12) (T := TX12) (N := 85) hx hb hts inX12 tyX12 tyX12_ok nmX12 hown hK hP hD hS 0 mwd_o0 rfl 2 (by decide) fl197 (fun _ h9 => h9) rfl (by decide +kernel) rfl rfl (Nat.le_of_ble_eq_true rfl) dX12_look_46 (fun H locs hP hD hS => ?_)
          have hP : va_P D vwCl (mwd y ad zw (sI (sI σ 2 a) 2 i_6)) H := x_trP hP mwd_p0_2
          have hD : va_D A (mwd y ad zw (sI (sI σ 2 a) 2 i_6)) := x_trD hD mwd_p0_2
          refine lv_goto (tgt := 0) hx hb dX12_look_49 (by decide) ?_
          have hP : va_P D vwCl (mwd y ad zw (sI σ 2 i_6)) H := hP
          have hD : va_D A (mwd y ad zw (sI σ 2 i_6)) := hD
          exact ih_loop i_6 H locs ls (by omega) (by omega) (by omega) hP hD hS (lv_sub hl [0] rfl)
        · have kc_5 : i_4.toInt ≠ 10 := by have h9 := c_5; simp only [ge_iff_le, gt_iff_lt, x_lt, x_le, x_eq, ne_eq, Int32.not_lt, Int32.not_le] at h9; simp only [Int32.reduceToInt] at h9; omega
          refine lv_aload_n hx hb dX12_look_25 rfl (lv_at hl 0 rfl) ?_
          refine va_get (D := D) (ci := 11) (v := .ref (ad 0)) (C := RX12) (T := TX12) (N := 85) hx hb hts inX12 hown hK hP 0 mwd_o0 rfl 0 (by decide) fl7 (fun _ h9 => h9) rfl dX12_look_26 ?_
          refine lv_aload_n hx hb dX12_look_29 rfl (lv_at hl 0 rfl) ?_
          refine va_get (D := D) (ci := 11) (v := .int a) (C := RX12) (T := TX12) (N := 85) hx hb hts inX12 hown hK hP 0 mwd_o0 rfl 2 (by decide) fl197 (fun _ h9 => h9) rfl dX12_look_30 ?_
          refine va_iald hx hb hK hP 1 2 mwd_a1 rfl (x_in (by omega) (by omega)) dX12_look_33 ?_
          refine lv_topi (fun i_7 ei_7 => ?_)
          have ei_7 : i_7 = (σ.2.2.1 0) (Int32.toNatClampNeg a) := ei_7
          refine lv_bipush (v := 32) hx hb dX12_look_34 (by decide) ?_
          refine lv_icmp_ne (tgt := 52) hx hb dX12_look_36 (by decide) (fun c_8 => ?_) (fun c_8 => ?_)
          · have kc_8 : i_7.toInt ≠ 32 := by have h9 := c_8; simp only [ge_iff_le, gt_iff_lt, x_lt, x_le, x_eq, ne_eq, Int32.not_lt, Int32.not_le] at h9; simp only [Int32.reduceToInt] at h9; omega
            refine lv_aload_n hx hb dX12_look_52 rfl (lv_at hl 0 rfl) ?_
            refine va_get (D := D) (ci := 11) (v := .int a) (C := RX12) (T := TX12) (N := 85) hx hb hts inX12 hown hK hP 0 mwd_o0 rfl 2 (by decide) fl197 (fun _ h9 => h9) rfl dX12_look_53 ?_
            refine lv_aload_n hx hb dX12_look_56 rfl (lv_at hl 0 rfl) ?_
            refine va_get (D := D) (ci := 11) (v := .int (σ.1 3)) (C := RX12) (T := TX12) (N := 85) hx hb hts inX12 hown hK hP 0 mwd_o0 rfl 3 (by decide) fl200 (fun _ h9 => h9) rfl dX12_look_57 ?_
            refine lv_icmp_ge (tgt := 75) hx hb dX12_look_60 (by decide) (fun c_9 => ?_) (fun c_9 => ?_)
            · have kc_9 : a.toInt ≥ (σ.1 3).toInt := by have h9 := c_9; simp only [ge_iff_le, gt_iff_lt, x_lt, x_le, x_eq, ne_eq, Int32.not_lt, Int32.not_le] at h9; omega
              refine lv_iconst (v := (-1)) hx hb dX12_look_75 (by decide) ?_
              exact x_iretW (v := (-1)) (u := a) hx hb hr hQ ⟨by omega, by omega, by omega⟩ hP hD hK hS dX12_look_76 hlocks
            · have kc_9 : a.toInt < (σ.1 3).toInt := by have h9 := c_9; simp only [ge_iff_le, gt_iff_lt, x_lt, x_le, x_eq, ne_eq, Int32.not_lt, Int32.not_le] at h9; omega
              refine lv_aload_n hx hb dX12_look_63 rfl (lv_at hl 0 rfl) ?_
              refine va_get (D := D) (ci := 11) (v := .ref (ad 0)) (C := RX12) (T := TX12) (N := 85) hx hb hts inX12 hown hK hP 0 mwd_o0 rfl 0 (by decide) fl7 (fun _ h9 => h9) rfl dX12_look_64 ?_
              refine lv_aload_n hx hb dX12_look_67 rfl (lv_at hl 0 rfl) ?_
              refine va_get (D := D) (ci := 11) (v := .int a) (C := RX12) (T := TX12) (N := 85) hx hb hts inX12 hown hK hP 0 mwd_o0 rfl 2 (by decide) fl197 (fun _ h9 => h9) rfl dX12_look_68 ?_
              refine va_iald hx hb hK hP 1 2 mwd_a1 rfl (x_in (by omega) (by omega)) dX12_look_71 ?_
              refine lv_topi (fun i_10 ei_10 => ?_)
              have ei_10 : i_10 = (σ.2.2.1 0) (Int32.toNatClampNeg a) := ei_10
              refine lv_goto (tgt := 76) hx hb dX12_look_72 (by decide) ?_
              exact x_iretW (v := i_10) (u := a) hx hb hr hQ ⟨by omega, by omega, by omega⟩ hP hD hK hS dX12_look_76 hlocks
          · have kc_8 : i_7.toInt = 32 := by have h9 := c_8; simp only [ge_iff_le, gt_iff_lt, x_lt, x_le, x_eq, ne_eq, Int32.not_lt, Int32.not_le] at h9; simp only [Int32.reduceToInt] at h9; omega
            refine lv_aload_n hx hb dX12_look_39 rfl (lv_at hl 0 rfl) ?_
            refine lv_dup hx hb dX12_look_40 rfl ?_
            refine va_get (D := D) (ci := 11) (v := .int a) (C := RX12) (T := TX12) (N := 85) hx hb hts inX12 hown hK hP 0 mwd_o0 rfl 2 (by decide) fl197 (fun _ h9 => h9) rfl dX12_look_41 ?_
            refine lv_iconst (v := 1) hx hb dX12_look_44 (by decide) ?_
            refine lv_iadd hx hb dX12_look_45 ?_
            refine lv_topi (fun i_11 ei_11 => ?_)
            have vi_11 : i_11.toInt = a.toInt + 1 := by have h9 := x_add ei_11 (by omega) (by omega); omega
            refine va_put (D := D) (ci := 11) (v := .int i_11) (ty := .int) (C := RX12) (T := TX12) (N := 85) hx hb hts inX12 tyX12 tyX12_ok nmX12 hown hK hP hD hS 0 mwd_o0 rfl 2 (by decide) fl197 (fun _ h9 => h9) rfl (by decide +kernel) rfl rfl (Nat.le_of_ble_eq_true rfl) dX12_look_46 (fun H locs hP hD hS => ?_)
            have hP : va_P D vwCl (mwd y ad zw (sI (sI σ 2 a) 2 i_11)) H := x_trP hP mwd_p0_2
            have hD : va_D A (mwd y ad zw (sI (sI σ 2 a) 2 i_11)) := x_trD hD mwd_p0_2
            refine lv_goto (tgt := 0) hx hb dX12_look_49 (by decide) ?_
            have hP : va_P D vwCl (mwd y ad zw (sI σ 2 i_11)) H := hP
            have hD : va_D A (mwd y ad zw (sI σ 2 i_11)) := hD
            exact ih_loop i_11 H locs ls (by omega) (by omega) (by omega) hP hD hS (lv_sub hl [0] rfl)
  exact loop (700 + 1) (σ.1 2) H locs ls (Int.le_refl _) ha1 (by omega) hP hD hS (lv_sub hl [0] rfl)

def v_q_size : List Cond := .code yX12_size cX12_size 2 (some .long) :: []
set_option maxHeartbeats 4000000 in
set_option maxRecDepth 100000 in
theorem q_size (l : Launch) (D : va_G) (y : Nat → ClassId) (sz : Nat) (v : Int64) (hv : -9223372036854775808 < v.toInt) : Met l yX12_size v_q_size ({ frames := 0, cells := 0, slots := 0, locals := 0 } : Room) (va_Pc [.long v] (xPre D (xT y) [] sz)) (va_Ql (fun (r : Int64) (_ : Unit) => (0 ≤ v.toInt ∧ r.toInt = v.toInt) ∨ (v.toInt < 0 ∧ r.toInt = -v.toInt)) (fun (u : Unit) => xB D (xT y) (va_A [] sz) []) (va_A [] sz)) 0 0 (va_A [] sz) := by
  refine x_metl (cc := cX12_size) (maxL := 2) (by decide) rfl (Nat.le_of_ble_eq_true rfl) ?_
  intro p e s m below meth c A H locs Q hx hb hml hown hts hr hlocks hmn hA hP hK hD hS ls hl hQ
  have hl : lv_has ls 2 [(0, .long v)] := hl
  refine lv_lload_n hx hb dX12_size_0 rfl (lv_at hl 0 rfl) ?_
  refine lv_lconst (v := 0) hx hb dX12_size_1 (by decide) ?_
  refine W.lcmp hx hb dX12_size_2 ?_
  refine lv_if_ge (tgt := 11) hx hb dX12_size_3 (by decide) (fun c_1 => ?_) (fun c_1 => ?_)
  · have kc_1 : v.toInt ≥ 0 := by have h9 := x_tri v (0 : Int64); (try simp only [Int64.reduceToInt] at h9); rcases h9 with ⟨g1, g2⟩ | ⟨g1, g2⟩ | ⟨g1, g2⟩ <;> first | omega | (exfalso; rw [g1] at c_1; revert c_1; decide)
    refine lv_lload_n hx hb dX12_size_11 rfl (lv_at hl 0 rfl) ?_
    exact x_lretW (v := v) (u := ()) hx hb hr hQ (by omega) (x_nilP D H) (x_nilD A) hK hS dX12_size_12 hlocks
  · have kc_1 : v.toInt < 0 := by have h9 := x_tri v (0 : Int64); (try simp only [Int64.reduceToInt] at h9); rcases h9 with ⟨g1, g2⟩ | ⟨g1, g2⟩ | ⟨g1, g2⟩ <;> first | omega | (exfalso; rw [g1] at c_1; revert c_1; decide)
    refine lv_lload_n hx hb dX12_size_6 rfl (lv_at hl 0 rfl) ?_
    refine lv_lneg hx hb dX12_size_7 ?_
    refine lv_topl (fun j_2 ej_2 => ?_)
    have vj_2 : j_2.toInt = -v.toInt := by have h9 := x_negL ej_2 (by omega); omega
    refine lv_goto (tgt := 12) hx hb dX12_size_8 (by decide) ?_
    exact x_lretW (v := j_2) (u := ()) hx hb hr hQ (by omega) (x_nilP D H) (x_nilD A) hK hS dX12_size_12 hlocks

def v_q_common : List Cond := .code yX12_common cX12_common 10 (some .long) :: ([] ++ (wsS RX12 380 yX12_size v_q_size))
theorem g_q_common_0 : GoodIn v_q_common (wsS RX12 380 yX12_size v_q_size) := goodIn_sub (fun w h => List.mem_cons_of_mem _ (List.mem_append_right _ h)) (by decide +kernel)
set_option maxHeartbeats 4000000 in
set_option maxRecDepth 100000 in
theorem q_common (l : Launch) (D : va_G) (y : Nat → ClassId) (sz : Nat) (a b : Int64) (ha0 : -4000000000000000000 ≤ a.toInt) (ha1 : a.toInt ≤ 4000000000000000000) (hb0 : -4000000000000000000 ≤ b.toInt) (hb1 : b.toInt ≤ 4000000000000000000) : Met l yX12_common v_q_common ({ frames := 1, cells := 0, slots := 0, locals := 21 } : Room) (va_Pc [.long a, .long b] (xPre D (xT y) [] sz)) (va_Ql (fun (r : Int64) (_ : Unit) => 0 ≤ r.toInt ∧ (b.toInt ≠ 0 → 1 ≤ r.toInt)) (fun (u : Unit) => xB D (xT y) (va_A [] sz) []) (va_A [] sz)) 0 0 (va_A [] sz) := by
  refine x_metl (cc := cX12_common) (maxL := 10) (by decide) rfl (Nat.le_of_ble_eq_true rfl) ?_
  intro p e s m below meth c A H locs Q hx hb hml hown hts hr hlocks hmn hA hP hK hD hS ls hl hQ
  have hl : lv_has ls 10 [(0, .long a), (2, .long b)] := hl
  refine lv_lload_n hx hb dX12_common_0 rfl (lv_at hl 0 rfl) ?_
  refine x_calllN (va_runS (As := [.long a]) (rest := []) ⟨hx, hb, hml, hown, hts⟩ (q_size l D y H.size a (by first | omega | decide)) (cwS 1 hts g_q_common_0 rfl rfl rfl (by decide +kernel) ⟨Nat.le_of_ble_eq_true rfl, Nat.le_of_ble_eq_true rfl⟩) (x_preS hK (x_nilP D H) (x_nilD A)) rfl rfl hl.1 rfl (lv_room (Nat.le_of_ble_eq_true rfl)) dX12_common_1 ⟨Nat.le_of_ble_eq_true rfl, Nat.le_of_ble_eq_true rfl⟩) hP hD hS hA (fun r_1 u H locs hw hP hD hS => ?_)
  try dsimp only at hw
  refine lv_lstore (lv' := [(4, .long r_1), (0, .long a), (2, .long b)]) hx hb dX12_common_4 hl (by decide) rfl (fun ls hl => ?_)
  refine lv_lload_n hx hb dX12_common_6 rfl (lv_at hl 2 rfl) ?_
  refine x_calllN (va_runS (As := [.long b]) (rest := []) ⟨hx, hb, hml, hown, hts⟩ (q_size l D y H.size b (by first | omega | decide)) (cwS 1 hts g_q_common_0 rfl rfl rfl (by decide +kernel) ⟨Nat.le_of_ble_eq_true rfl, Nat.le_of_ble_eq_true rfl⟩) (x_preS hK (x_nilP D H) (x_nilD A)) rfl rfl hl.1 rfl (lv_room (Nat.le_of_ble_eq_true rfl)) dX12_common_7 ⟨Nat.le_of_ble_eq_true rfl, Nat.le_of_ble_eq_true rfl⟩) hP hD hS hA (fun r_2 u H locs hw hP hD hS => ?_)
  try dsimp only at hw
  refine lv_lstore (lv' := [(6, .long r_2), (4, .long r_1), (0, .long a), (2, .long b)]) hx hb dX12_common_10 hl (by decide) rfl (fun ls hl => ?_)
  have loop : ∀ (fu : Nat) (x : Int64) (z : Int64) (H : Heap) (locs : List Loc) (ls : Array Slot), (0 ≤ x.toInt) → (0 ≤ z.toInt) → (b.toInt ≠ 0 → (1 ≤ z.toInt ∨ 1 ≤ x.toInt)) → (z.toInt < (fu : Int)) → va_P D vwCl [] H → va_D A [] → va_S A s.heap H locs → lv_has ls 10 [(6, .long z), (4, .long x)] → W p l e ({ frames := 1, cells := 0, slots := 0, locals := 21 } : Room) s m ([.long a, .long b] : List Value).toArray below meth c H locs 0 0 Q (F0 m 12 ls []) := by
    intro fu
    induction fu with
    | zero =>
      intro x z H locs ls hx0 hz0 hg hm
      exact absurd hm (by omega)
    | succ fu ih_loop =>
      intro x z H locs ls hx0 hz0 hg hm hP hD hS hl
      refine lv_lload hx hb dX12_common_12 (lv_at hl 0 rfl) ?_
      refine lv_lconst (v := 0) hx hb dX12_common_14 (by decide) ?_
      refine W.lcmp hx hb dX12_common_15 ?_
      refine lv_if_le (tgt := 37) hx hb dX12_common_16 (by decide) (fun c_3 => ?_) (fun c_3 => ?_)
      · have kc_3 : z.toInt ≤ 0 := by have h9 := x_tri z (0 : Int64); (try simp only [Int64.reduceToInt] at h9); rcases h9 with ⟨g1, g2⟩ | ⟨g1, g2⟩ | ⟨g1, g2⟩ <;> first | omega | (exfalso; rw [g1] at c_3; revert c_3; decide)
        refine lv_lload hx hb dX12_common_37 (lv_at hl 1 rfl) ?_
        exact x_lretW (v := x) (u := ()) hx hb hr hQ ⟨by omega, by omega⟩ (x_nilP D H) (x_nilD A) hK hS dX12_common_39 hlocks
      · have kc_3 : z.toInt > 0 := by have h9 := x_tri z (0 : Int64); (try simp only [Int64.reduceToInt] at h9); rcases h9 with ⟨g1, g2⟩ | ⟨g1, g2⟩ | ⟨g1, g2⟩ <;> first | omega | (exfalso; rw [g1] at c_3; revert c_3; decide)
        refine lv_lload hx hb dX12_common_19 (lv_at hl 1 rfl) ?_
        refine lv_lload hx hb dX12_common_21 (lv_at hl 0 rfl) ?_
        refine lv_lrem hx hb dX12_common_23 (fun h9 => absurd (show z.toInt = 0 by rw [h9]; rfl) (by omega)) ?_
        refine lv_topl (fun j_4 ej_4 => ?_)
        have vj_4 := x_remL ej_4 (by omega) (by omega)
        refine lv_lstore (lv' := [(8, .long j_4), (6, .long z), (4, .long x)]) hx hb dX12_common_24 hl (by decide) rfl (fun ls hl => ?_)
        refine lv_lload hx hb dX12_common_26 (lv_at hl 1 rfl) ?_
        refine lv_lstore (lv' := [(4, .long z), (8, .long j_4), (6, .long z)]) hx hb dX12_common_28 hl (by decide) rfl (fun ls hl => ?_)
        refine lv_lload hx hb dX12_common_30 (lv_at hl 1 rfl) ?_
        refine lv_lstore (lv' := [(6, .long j_4), (4, .long z), (8, .long j_4)]) hx hb dX12_common_32 hl (by decide) rfl (fun ls hl => ?_)
        refine lv_goto (tgt := 12) hx hb dX12_common_34 (by decide) ?_
        exact ih_loop z j_4 H locs ls (by omega) (by omega) (by omega) (by omega) hP hD hS (lv_sub hl [0, 1] rfl)
  exact loop (4000000000000000000 + 1) r_1 r_2 H locs ls (by omega) (by omega) (by omega) (by omega) hP hD hS (lv_sub hl [0, 1] rfl)

