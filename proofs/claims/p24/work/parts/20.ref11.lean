/-- the ways that are still to be tried, as a number -/
def dgs (g : Nat → Int32) : Nat → Int
  | 0 => 0
  | k + 1 => dgs g k + (9 - (g k).toInt) * 12 ^ (7 - k)
theorem dgs_upd (g : Nat → Int32) (v : Int32) : ∀ {k j : Nat}, k ≤ j → dgs (upd g j v) k = dgs g k
  | 0, _, _ => rfl
  | k + 1, j, h => by
    show dgs (upd g j v) k + (9 - (upd g j v k).toInt) * 12 ^ (7 - k) = dgs g k + (9 - (g k).toInt) * 12 ^ (7 - k)
    rw [dgs_upd g v (by omega), x_upd_ne g v (by omega)]
theorem dgs_pos {g : Nat → Int32} (h : bI g (-1) 9) : ∀ k, 0 ≤ dgs g k
  | 0 => Int.le_refl 0
  | k + 1 => by
    have h1 := dgs_pos h k
    have h2 := (h k).2
    have h3 : 0 ≤ (9 - (g k).toInt) * (12 : Int) ^ (7 - k) := Int.mul_nonneg (by omega) (Int.le_of_lt (Int.pow_pos (by decide)))
    show 0 ≤ dgs g k + (9 - (g k).toInt) * 12 ^ (7 - k)
    omega
def MS (g : Nat → Int32) (i n : Int) : Int := if 0 ≤ i ∧ i < n then dgs g (i.toNat + 1) else 0
theorem MS_in {g : Nat → Int32} {a : Nat} {n : Int} (h : (a : Int) < n) : MS g a n = dgs g a + (9 - (g a).toInt) * 12 ^ (7 - a) := by
  unfold MS
  rw [if_pos ⟨by omega, h⟩]
  rfl
theorem MS_out {g : Nat → Int32} {i n : Int} (h : i < 0 ∨ n ≤ i) : MS g i n = 0 := by
  unfold MS
  rw [if_neg (by omega)]
theorem x_w (a : Nat) : (1 : Int) ≤ 12 ^ (7 - a) := Int.pow_pos (by decide)
theorem MS_lo {g : Nat → Int32} (hg : bI g (-1) 9) {a : Nat} {n : Int} (h : (a : Int) < n) (h8 : (g a).toInt ≤ 8) : 12 ^ (7 - a) + dgs g a ≤ MS g a n := by
  rw [MS_in h]
  have h1 := x_w a
  have h2 : 1 * (12 : Int) ^ (7 - a) ≤ (9 - (g a).toInt) * 12 ^ (7 - a) := Int.mul_le_mul_of_nonneg_right (by omega) (by omega)
  omega
theorem T_stay {g : Nat → Int32} {a : Nat} {n : Int} {v : Int32} (h : (a : Int) < n) (hv : v.toInt = (g a).toInt + 1) : MS (upd g a v) a n < MS g a n := by
  rw [MS_in h, MS_in h, dgs_upd g v (Nat.le_refl a), x_upd_same, hv]
  have h1 := x_w a
  have h2 : (9 - ((g a).toInt + 1)) * (12 : Int) ^ (7 - a) = (9 - (g a).toInt) * 12 ^ (7 - a) - 12 ^ (7 - a) := by rw [show 9 - ((g a).toInt + 1) = (9 - (g a).toInt) - 1 by omega, Int.sub_mul, Int.one_mul]
  omega
theorem T_back {g : Nat → Int32} (hg : bI g (-1) 9) {a : Nat} {n : Int} {v : Int32} (h : (a : Int) < n) (h8 : (g a).toInt ≤ 8) : MS (upd g a v) ((a : Int) - 1) n < MS g a n := by
  have h1 := MS_lo hg h h8
  have h2 := x_w a
  have h3 := dgs_pos hg a
  cases a with
  | zero => rw [MS_out (by omega)]; omega
  | succ a =>
    rw [show ((a + 1 : Nat) : Int) - 1 = (a : Int) by omega, MS_in (by omega)]
    have e : dgs (upd g (a + 1) v) a + (9 - (upd g (a + 1) v a).toInt) * 12 ^ (7 - a) = dgs g (a + 1) := by rw [dgs_upd g v (by omega), x_upd_ne g v (by omega)]; rfl
    omega
theorem T_end {g g' : Nat → Int32} (hg : bI g (-1) 9) {a : Nat} {n j : Int} (h : (a : Int) < n) (h8 : (g a).toInt ≤ 8) (hj : n ≤ j) : MS g' j n < MS g a n := by
  have h1 := MS_lo hg h h8
  have h2 := x_w a
  have h3 := dgs_pos hg a
  rw [MS_out (by omega)]
  omega
theorem T_adv {g : Nat → Int32} (hg : bI g (-1) 9) {a : Nat} {n j : Int} {v v2 : Int32} (h : (a : Int) + 1 < n) (hn : n ≤ 8) (hv : v.toInt = (g a).toInt + 1) (hv2 : v2.toInt = -1) (hj : j = (a : Int) + 1) : MS (upd (upd g a v) (a + 1) v2) j n < MS g a n := by
  rw [hj, show (a : Int) + 1 = ((a + 1 : Nat) : Int) by omega, MS_in (a := a + 1) (by omega), MS_in (by omega), dgs_upd _ v2 (Nat.le_refl _), x_upd_same, hv2]
  have e : dgs (upd g a v) (a + 1) = dgs g a + (9 - v.toInt) * 12 ^ (7 - a) := by
    show dgs (upd g a v) a + (9 - (upd g a v a).toInt) * 12 ^ (7 - a) = _
    rw [dgs_upd g v (Nat.le_refl a), x_upd_same]
  have w1 := x_w (a + 1)
  have w2 : (12 : Int) ^ (7 - a) = 12 * 12 ^ (7 - (a + 1)) := by rw [show 7 - a = (7 - (a + 1)) + 1 by omega, Int.pow_succ, Int.mul_comm]
  have h2 : (9 - v.toInt) * (12 : Int) ^ (7 - a) = (9 - (g a).toInt) * 12 ^ (7 - a) - 12 ^ (7 - a) := by rw [show 9 - v.toInt = (9 - (g a).toInt) - 1 by omega, Int.sub_mul, Int.one_mul]
  rw [e, h2]
  omega
/-- the way of all apart has not been passed -/
def PP (g : Nat → Int32) (i n : Int) : Prop := 0 ≤ i ∧ ∃ p : Nat, (p : Int) ≤ i ∧ (∀ k : Nat, k < p → (g k).toInt = k) ∧ ((p : Int) < n → (g p).toInt < p)
theorem PP_back {g : Nat → Int32} {a : Nat} {n : Int} {v : Int32} (q : PP g a n) (h : (a : Int) < n) (hn : n ≤ 8) (hv : v.toInt = (g a).toInt + 1) (h9 : 8 < v.toInt) : PP (upd g a v) ((a : Int) - 1) n := by
  obtain ⟨_, p, h1, h2, h3⟩ := q
  have hp : p ≠ a := fun e => by
    subst e
    have := h3 h
    omega
  refine ⟨by omega, p, by omega, fun k hk => ?_, fun e => ?_⟩
  · rw [x_upd_ne g v (by omega)]; exact h2 k hk
  · rw [x_upd_ne g v hp]; exact h3 e
theorem PP_next {g : Nat → Int32} {a : Nat} {n : Int} {v : Int32} (q : PP g a n) (h : (a : Int) < n) (hv : v.toInt = (g a).toInt + 1) (hd : ¬ ((∀ k : Nat, (k : Int) < (a : Int) → (upd g a v k).toInt = k) ∧ v.toInt = a)) : PP (upd g a v) a n := by
  obtain ⟨h0, p, h1, h2, h3⟩ := q
  refine ⟨h0, p, h1, fun k hk => ?_, fun e => ?_⟩
  · rw [x_upd_ne g v (by omega)]; exact h2 k hk
  · by_cases hp : p = a
    · subst hp
      rw [x_upd_same]
      have h4 := h3 h
      have h5 : v.toInt ≠ p := fun e2 => hd ⟨fun k hk => by rw [x_upd_ne g v (by omega)]; exact h2 k (by omega), e2⟩
      omega
    · rw [x_upd_ne g v hp]; exact h3 e
theorem PP_adv {g : Nat → Int32} {a : Nat} {n j : Int} {v v2 : Int32} (q : PP g a n) (h : (a : Int) < n) (hv : v.toInt = (g a).toInt + 1) (hv2 : v2.toInt = -1) (hj : j = (a : Int) + 1) : PP (upd (upd g a v) (a + 1) v2) j n := by
  subst hj
  obtain ⟨h0, p, h1, h2, h3⟩ := q
  have e1 : ∀ k : Nat, k < a → (upd (upd g a v) (a + 1) v2 k).toInt = (g k).toInt := fun k hk => by rw [x_upd_ne _ v2 (by omega), x_upd_ne g v (by omega)]
  have e2 : (upd (upd g a v) (a + 1) v2 a).toInt = v.toInt := by rw [x_upd_ne _ v2 (by omega), x_upd_same]
  by_cases hp : p = a
  · subst hp
    have h4 := h3 h
    by_cases hv3 : v.toInt = p
    · refine ⟨by omega, p + 1, by omega, fun k hk => ?_, fun e => ?_⟩
      · by_cases hk2 : k = p
        · subst hk2; omega
        · rw [e1 k (by omega)]; exact h2 k (by omega)
      · rw [x_upd_same]; omega
    · refine ⟨by omega, p, by omega, fun k hk => ?_, fun e => ?_⟩
      · rw [e1 k hk]; exact h2 k hk
      · omega
  · refine ⟨by omega, p, by omega, fun k hk => ?_, fun e => ?_⟩
    · rw [e1 k (by omega)]; exact h2 k hk
    · rw [e1 p (by omega)]; exact h3 e
theorem PP_end {g : Nat → Int32} {a : Nat} {n j : Int} {v : Int32} (q : PP g a n) (h : (a : Int) < n) (hv : v.toInt = (g a).toInt + 1) (hj : j = (a : Int) + 1) (hn : n ≤ j) : PP (upd g a v) j n := by
  subst hj
  obtain ⟨h0, p, h1, h2, h3⟩ := q
  have e1 : ∀ k : Nat, k < a → (upd g a v k).toInt = (g k).toInt := fun k hk => by rw [x_upd_ne g v (by omega)]
  by_cases hp : p = a
  · subst hp
    have h4 := h3 h
    by_cases hv3 : v.toInt = p
    · refine ⟨by omega, p + 1, by omega, fun k hk => ?_, fun e => by omega⟩
      by_cases hk2 : k = p
      · subst hk2; rw [x_upd_same]; omega
      · rw [e1 k (by omega)]; exact h2 k (by omega)
    · refine ⟨by omega, p, by omega, fun k hk => ?_, fun e => ?_⟩
      · rw [e1 k hk]; exact h2 k hk
      · rw [x_upd_same]; omega
  · refine ⟨by omega, p, by omega, fun k hk => ?_, fun e => ?_⟩
    · rw [e1 k (by omega)]; exact h2 k hk
    · rw [e1 p (by omega)]; exact h3 e
theorem MS_nn {g : Nat → Int32} (h : bI g (-1) 9) (i n : Int) : 0 ≤ MS g i n := by
  unfold MS
  split
  · exact dgs_pos h _
  · exact Int.le_refl 0
theorem dgs_top {g : Nat → Int32} (h : bI g (-1) 9) (n : Int) (hn : n ≤ 8) : MS g 0 n ≤ 400000000 := by
  unfold MS
  split
  · show dgs g 0 + (9 - (g 0).toInt) * 12 ^ (7 - 0) ≤ _
    have h1 := (h 0).1
    show 0 + (9 - (g 0).toInt) * 35831808 ≤ _
    omega
  · decide
theorem T_start {g0 : Nat → Int32} (_ : bI g0 (-1) 9) (n : Int) (hn : n ≤ 8) (g : Nat → Int32) (h : bI g (-1) 9) : MS g 0 n ≤ 400000000 := dgs_top h n hn

theorem dX12_mayStand_0 : decode cX12_mayStand 0 = .ok (.iconst 0, 1) := by decide +kernel
theorem dX12_mayStand_1 : decode cX12_mayStand 1 = .ok (.istore_n 3, 1) := by decide +kernel
theorem dX12_mayStand_2 : decode cX12_mayStand 2 = .ok (.iconst 0, 1) := by decide +kernel
theorem dX12_mayStand_3 : decode cX12_mayStand 3 = .ok (.istore 4, 2) := by decide +kernel
theorem dX12_mayStand_5 : decode cX12_mayStand 5 = .ok (.iload 4, 2) := by decide +kernel
theorem dX12_mayStand_7 : decode cX12_mayStand 7 = .ok (.iload_n 1, 1) := by decide +kernel
theorem dX12_mayStand_8 : decode cX12_mayStand 8 = .ok (.if_icmp .ge 30, 3) := by decide +kernel
theorem dX12_mayStand_11 : decode cX12_mayStand 11 = .ok (.aload_n 0, 1) := by decide +kernel
theorem dX12_mayStand_12 : decode cX12_mayStand 12 = .ok (.getfield 176, 3) := by decide +kernel
theorem dX12_mayStand_15 : decode cX12_mayStand 15 = .ok (.iload 4, 2) := by decide +kernel
theorem dX12_mayStand_17 : decode cX12_mayStand 17 = .ok (.iaload, 1) := by decide +kernel
theorem dX12_mayStand_18 : decode cX12_mayStand 18 = .ok (.iload_n 3, 1) := by decide +kernel
theorem dX12_mayStand_19 : decode cX12_mayStand 19 = .ok (.if_icmp .lt 13, 3) := by decide +kernel
theorem dX12_mayStand_22 : decode cX12_mayStand 22 = .ok (.aload_n 0, 1) := by decide +kernel
theorem dX12_mayStand_23 : decode cX12_mayStand 23 = .ok (.getfield 176, 3) := by decide +kernel
theorem dX12_mayStand_26 : decode cX12_mayStand 26 = .ok (.iload 4, 2) := by decide +kernel
theorem dX12_mayStand_28 : decode cX12_mayStand 28 = .ok (.iaload, 1) := by decide +kernel
theorem dX12_mayStand_29 : decode cX12_mayStand 29 = .ok (.iconst 1, 1) := by decide +kernel
theorem dX12_mayStand_30 : decode cX12_mayStand 30 = .ok (.iadd, 1) := by decide +kernel
theorem dX12_mayStand_31 : decode cX12_mayStand 31 = .ok (.istore_n 3, 1) := by decide +kernel
theorem dX12_mayStand_32 : decode cX12_mayStand 32 = .ok (.iinc 4 1, 3) := by decide +kernel
theorem dX12_mayStand_35 : decode cX12_mayStand 35 = .ok (.goto (-30), 3) := by decide +kernel
theorem dX12_mayStand_38 : decode cX12_mayStand 38 = .ok (.aload_n 0, 1) := by decide +kernel
theorem dX12_mayStand_39 : decode cX12_mayStand 39 = .ok (.getfield 176, 3) := by decide +kernel
theorem dX12_mayStand_42 : decode cX12_mayStand 42 = .ok (.iload_n 1, 1) := by decide +kernel
theorem dX12_mayStand_43 : decode cX12_mayStand 43 = .ok (.iaload, 1) := by decide +kernel
theorem dX12_mayStand_44 : decode cX12_mayStand 44 = .ok (.iload_n 3, 1) := by decide +kernel
theorem dX12_mayStand_45 : decode cX12_mayStand 45 = .ok (.if_icmp .gt 13, 3) := by decide +kernel
theorem dX12_mayStand_48 : decode cX12_mayStand 48 = .ok (.aload_n 0, 1) := by decide +kernel
theorem dX12_mayStand_49 : decode cX12_mayStand 49 = .ok (.getfield 176, 3) := by decide +kernel
theorem dX12_mayStand_52 : decode cX12_mayStand 52 = .ok (.iload_n 1, 1) := by decide +kernel
theorem dX12_mayStand_53 : decode cX12_mayStand 53 = .ok (.iaload, 1) := by decide +kernel
theorem dX12_mayStand_54 : decode cX12_mayStand 54 = .ok (.iload_n 2, 1) := by decide +kernel
theorem dX12_mayStand_55 : decode cX12_mayStand 55 = .ok (.if_icmp .lt 5, 3) := by decide +kernel
theorem dX12_mayStand_58 : decode cX12_mayStand 58 = .ok (.iconst 0, 1) := by decide +kernel
theorem dX12_mayStand_59 : decode cX12_mayStand 59 = .ok (.ireturn, 1) := by decide +kernel
theorem dX12_mayStand_60 : decode cX12_mayStand 60 = .ok (.iconst 0, 1) := by decide +kernel
theorem dX12_mayStand_61 : decode cX12_mayStand 61 = .ok (.istore 4, 2) := by decide +kernel
theorem dX12_mayStand_63 : decode cX12_mayStand 63 = .ok (.iload 4, 2) := by decide +kernel
theorem dX12_mayStand_65 : decode cX12_mayStand 65 = .ok (.iload_n 1, 1) := by decide +kernel
theorem dX12_mayStand_66 : decode cX12_mayStand 66 = .ok (.if_icmp .ge 42, 3) := by decide +kernel
theorem dX12_mayStand_69 : decode cX12_mayStand 69 = .ok (.aload_n 0, 1) := by decide +kernel
theorem dX12_mayStand_70 : decode cX12_mayStand 70 = .ok (.getfield 176, 3) := by decide +kernel
theorem dX12_mayStand_73 : decode cX12_mayStand 73 = .ok (.iload 4, 2) := by decide +kernel
theorem dX12_mayStand_75 : decode cX12_mayStand 75 = .ok (.iaload, 1) := by decide +kernel
theorem dX12_mayStand_76 : decode cX12_mayStand 76 = .ok (.aload_n 0, 1) := by decide +kernel
theorem dX12_mayStand_77 : decode cX12_mayStand 77 = .ok (.getfield 176, 3) := by decide +kernel
theorem dX12_mayStand_80 : decode cX12_mayStand 80 = .ok (.iload_n 1, 1) := by decide +kernel
theorem dX12_mayStand_81 : decode cX12_mayStand 81 = .ok (.iaload, 1) := by decide +kernel
theorem dX12_mayStand_82 : decode cX12_mayStand 82 = .ok (.if_icmp .ne 20, 3) := by decide +kernel
theorem dX12_mayStand_85 : decode cX12_mayStand 85 = .ok (.aload_n 0, 1) := by decide +kernel
theorem dX12_mayStand_86 : decode cX12_mayStand 86 = .ok (.getfield 179, 3) := by decide +kernel
theorem dX12_mayStand_89 : decode cX12_mayStand 89 = .ok (.iload_n 1, 1) := by decide +kernel
theorem dX12_mayStand_90 : decode cX12_mayStand 90 = .ok (.iaload, 1) := by decide +kernel
theorem dX12_mayStand_91 : decode cX12_mayStand 91 = .ok (.iload 4, 2) := by decide +kernel
theorem dX12_mayStand_93 : decode cX12_mayStand 93 = .ok (.ishr, 1) := by decide +kernel
theorem dX12_mayStand_94 : decode cX12_mayStand 94 = .ok (.iconst 1, 1) := by decide +kernel
theorem dX12_mayStand_95 : decode cX12_mayStand 95 = .ok (.iand, 1) := by decide +kernel
theorem dX12_mayStand_96 : decode cX12_mayStand 96 = .ok (.iconst 1, 1) := by decide +kernel
theorem dX12_mayStand_97 : decode cX12_mayStand 97 = .ok (.if_icmp .ne 5, 3) := by decide +kernel
theorem dX12_mayStand_100 : decode cX12_mayStand 100 = .ok (.iconst 0, 1) := by decide +kernel
theorem dX12_mayStand_101 : decode cX12_mayStand 101 = .ok (.ireturn, 1) := by decide +kernel
theorem dX12_mayStand_102 : decode cX12_mayStand 102 = .ok (.iinc 4 1, 3) := by decide +kernel
theorem dX12_mayStand_105 : decode cX12_mayStand 105 = .ok (.goto (-42), 3) := by decide +kernel
theorem dX12_mayStand_108 : decode cX12_mayStand 108 = .ok (.iconst 1, 1) := by decide +kernel
theorem dX12_mayStand_109 : decode cX12_mayStand 109 = .ok (.ireturn, 1) := by decide +kernel
theorem dX12_parts_0 : decode cX12_parts 0 = .ok (.iconst 0, 1) := by decide +kernel
theorem dX12_parts_1 : decode cX12_parts 1 = .ok (.istore_n 2, 1) := by decide +kernel
theorem dX12_parts_2 : decode cX12_parts 2 = .ok (.aload_n 0, 1) := by decide +kernel
theorem dX12_parts_3 : decode cX12_parts 3 = .ok (.getfield 176, 3) := by decide +kernel
theorem dX12_parts_6 : decode cX12_parts 6 = .ok (.iconst 0, 1) := by decide +kernel
theorem dX12_parts_7 : decode cX12_parts 7 = .ok (.iconst (-1), 1) := by decide +kernel
theorem dX12_parts_8 : decode cX12_parts 8 = .ok (.iastore, 1) := by decide +kernel
theorem dX12_parts_9 : decode cX12_parts 9 = .ok (.iload_n 2, 1) := by decide +kernel
theorem dX12_parts_10 : decode cX12_parts 10 = .ok (.ifCond .lt 68, 3) := by decide +kernel
theorem dX12_parts_13 : decode cX12_parts 13 = .ok (.iload_n 2, 1) := by decide +kernel
theorem dX12_parts_14 : decode cX12_parts 14 = .ok (.aload_n 0, 1) := by decide +kernel
theorem dX12_parts_15 : decode cX12_parts 15 = .ok (.getfield 488, 3) := by decide +kernel
theorem dX12_parts_18 : decode cX12_parts 18 = .ok (.if_icmp .ge 60, 3) := by decide +kernel
theorem dX12_parts_21 : decode cX12_parts 21 = .ok (.aload_n 0, 1) := by decide +kernel
theorem dX12_parts_22 : decode cX12_parts 22 = .ok (.getfield 176, 3) := by decide +kernel
theorem dX12_parts_25 : decode cX12_parts 25 = .ok (.iload_n 2, 1) := by decide +kernel
theorem dX12_parts_26 : decode cX12_parts 26 = .ok (.dup2, 1) := by decide +kernel
theorem dX12_parts_27 : decode cX12_parts 27 = .ok (.iaload, 1) := by decide +kernel
theorem dX12_parts_28 : decode cX12_parts 28 = .ok (.iconst 1, 1) := by decide +kernel
theorem dX12_parts_29 : decode cX12_parts 29 = .ok (.iadd, 1) := by decide +kernel
theorem dX12_parts_30 : decode cX12_parts 30 = .ok (.iastore, 1) := by decide +kernel
theorem dX12_parts_31 : decode cX12_parts 31 = .ok (.aload_n 0, 1) := by decide +kernel
theorem dX12_parts_32 : decode cX12_parts 32 = .ok (.getfield 176, 3) := by decide +kernel
theorem dX12_parts_35 : decode cX12_parts 35 = .ok (.iload_n 2, 1) := by decide +kernel
theorem dX12_parts_36 : decode cX12_parts 36 = .ok (.iaload, 1) := by decide +kernel
theorem dX12_parts_37 : decode cX12_parts 37 = .ok (.bipush 8, 2) := by decide +kernel
theorem dX12_parts_39 : decode cX12_parts 39 = .ok (.if_icmp .le 9, 3) := by decide +kernel
theorem dX12_parts_42 : decode cX12_parts 42 = .ok (.iinc 2 (-1), 3) := by decide +kernel
theorem dX12_parts_45 : decode cX12_parts 45 = .ok (.goto (-36), 3) := by decide +kernel
theorem dX12_parts_48 : decode cX12_parts 48 = .ok (.aload_n 0, 1) := by decide +kernel
theorem dX12_parts_49 : decode cX12_parts 49 = .ok (.iload_n 2, 1) := by decide +kernel
theorem dX12_parts_50 : decode cX12_parts 50 = .ok (.iload_n 1, 1) := by decide +kernel
theorem dX12_parts_51 : decode cX12_parts 51 = .ok (.invokevirtual 491, 3) := by decide +kernel
theorem dX12_parts_54 : decode cX12_parts 54 = .ok (.ifCond .eq (-45), 3) := by decide +kernel
theorem dX12_parts_57 : decode cX12_parts 57 = .ok (.iinc 2 1, 3) := by decide +kernel
theorem dX12_parts_60 : decode cX12_parts 60 = .ok (.iload_n 2, 1) := by decide +kernel
theorem dX12_parts_61 : decode cX12_parts 61 = .ok (.aload_n 0, 1) := by decide +kernel
theorem dX12_parts_62 : decode cX12_parts 62 = .ok (.getfield 488, 3) := by decide +kernel
theorem dX12_parts_65 : decode cX12_parts 65 = .ok (.if_icmp .ge (-56), 3) := by decide +kernel
theorem dX12_parts_68 : decode cX12_parts 68 = .ok (.aload_n 0, 1) := by decide +kernel
theorem dX12_parts_69 : decode cX12_parts 69 = .ok (.getfield 176, 3) := by decide +kernel
theorem dX12_parts_72 : decode cX12_parts 72 = .ok (.iload_n 2, 1) := by decide +kernel
theorem dX12_parts_73 : decode cX12_parts 73 = .ok (.iconst (-1), 1) := by decide +kernel
theorem dX12_parts_74 : decode cX12_parts 74 = .ok (.iastore, 1) := by decide +kernel
theorem dX12_parts_75 : decode cX12_parts 75 = .ok (.goto (-66), 3) := by decide +kernel
theorem dX12_parts_78 : decode cX12_parts 78 = .ok (.iload_n 2, 1) := by decide +kernel
theorem dX12_parts_79 : decode cX12_parts 79 = .ok (.ifCond .lt 7, 3) := by decide +kernel
theorem dX12_parts_82 : decode cX12_parts 82 = .ok (.iconst 1, 1) := by decide +kernel
theorem dX12_parts_83 : decode cX12_parts 83 = .ok (.goto 4, 3) := by decide +kernel
theorem dX12_parts_86 : decode cX12_parts 86 = .ok (.iconst 0, 1) := by decide +kernel
theorem dX12_parts_87 : decode cX12_parts 87 = .ok (.ireturn, 1) := by decide +kernel
def v_q_mayStand : List Cond := .code yX12_mayStand cX12_mayStand 5 (some .boolean) :: ([.fieldLink RX12 176 "SlopeRunnerModel" "groupOf" "[I", .fieldLink RX12 179 "SlopeRunnerModel" "apart" "[I"] ++ wsX120)
set_option maxHeartbeats 4000000 in
set_option maxRecDepth 100000 in
theorem q_mayStand (l : Launch) (D : va_G) (y : Nat → ClassId) (sz : Nat) (ad : Nat → Nat) (zw : Nat → Nat → Int32) (σ : OS) (i m9 : Int32) (hi0 : 0 ≤ i.toInt) (hi1 : i.toInt ≤ 7) (hB80 : bI (σ.2.2.1 80) (-1) 9) : Met l yX12_mayStand v_q_mayStand ({ frames := 0, cells := 0, slots := 0, locals := 0 } : Room) (va_Pc [.ref (ad 1), .int i, .int m9] (xPre D (xT y) (mwd y ad zw σ) sz)) (va_Qi (fun (r : Int32) (_ : Unit) => (r.toInt = 0 ∨ r.toInt = 1) ∧ (((∀ k : Nat, (k : Int) < i.toInt → ((σ.2.2.1 80) k).toInt = k) ∧ ((σ.2.2.1 80) (Int32.toNatClampNeg i)).toInt = i.toInt ∧ i.toInt < m9.toInt) → r.toInt = 1)) (fun (u : Unit) => xB D (xT y) (va_A (mwd y ad zw σ) sz) (mwd y ad zw σ)) (va_A (mwd y ad zw σ) sz)) 0 0 (va_A (mwd y ad zw σ) sz) := by
  refine x_meti (cc := cX12_mayStand) (maxL := 5) (by decide) rfl (Nat.le_of_ble_eq_true rfl) ?_
  intro p e s m below meth c A H locs Q hx hb hml hown hts hr hlocks hmn hA hP hK hD hS ls hl hQ
  have hl : lv_has ls 5 [(0, .ref (ad 1)), (1, .int i), (2, .int m9)] := hl
  have fl176 := hts (.fieldLink RX12 176 "SlopeRunnerModel" "groupOf" "[I") (List.mem_of_getElem? (i := 1) rfl)
  have inX12 : ∀ w ∈ wsX120, w ∈ v_q_mayStand := (fun w h => List.mem_cons_of_mem _ (List.mem_append_right _ h))
  have kk_0 : (0 : Int32).toInt = 0 := rfl
  have kk_1 : (1 : Int32).toInt = 1 := rfl
  have fl179 := hts (.fieldLink RX12 179 "SlopeRunnerModel" "apart" "[I") (List.mem_of_getElem? (i := 2) rfl)
  refine lv_iconst (v := 0) hx hb dX12_mayStand_0 (by decide) ?_
  refine lv_istore_n (lv' := [(3, .int 0), (0, .ref (ad 1)), (1, .int i), (2, .int m9)]) hx hb dX12_mayStand_1 rfl hl (by decide) rfl (fun ls hl => ?_)
  refine lv_iconst (v := 0) hx hb dX12_mayStand_2 (by decide) ?_
  refine lv_istore (lv' := [(4, .int 0), (3, .int 0), (0, .ref (ad 1)), (1, .int i), (2, .int m9)]) hx hb dX12_mayStand_3 hl (by decide) rfl (fun ls hl => ?_)
  have loop : ∀ (fu : Nat) (j : Int32) (us : Int32) (H : Heap) (locs : List Loc) (ls : Array Slot), (0 ≤ j.toInt) → (j.toInt ≤ i.toInt) → (0 ≤ us.toInt) → (us.toInt ≤ 10) → ((∀ k : Nat, (k : Int) < i.toInt → ((σ.2.2.1 80) k).toInt = k) → us.toInt = j.toInt) → (i.toInt - j.toInt < (fu : Int)) → va_P D vwCl (mwd y ad zw σ) H → va_D A (mwd y ad zw σ) → va_S A s.heap H locs → lv_has ls 5 [(4, .int j), (3, .int us), (2, .int m9), (1, .int i), (0, .ref (ad 1))] → W p l e ({ frames := 0, cells := 0, slots := 0, locals := 0 } : Room) s m ([.ref (ad 1), .int i, .int m9] : List Value).toArray below meth c H locs 0 0 Q (F0 m 5 ls []) := by
    intro fu
    induction fu with
    | zero =>
      intro j us H locs ls hj0 hj1 hu0 hu1 hU hm
      exact absurd hm (by omega)
    | succ fu ih_loop =>
      intro j us H locs ls hj0 hj1 hu0 hu1 hU hm hP hD hS hl
      refine lv_iload hx hb dX12_mayStand_5 (lv_at hl 0 rfl) ?_
      refine lv_iload_n hx hb dX12_mayStand_7 rfl (lv_at hl 3 rfl) ?_
      refine lv_icmp_ge (tgt := 38) hx hb dX12_mayStand_8 (by decide) (fun c_1 => ?_) (fun c_1 => ?_)
      · have kc_1 : j.toInt ≥ i.toInt := by have h9 := c_1; simp only [ge_iff_le, gt_iff_lt, x_lt, x_le, x_eq, ne_eq, Int32.not_lt, Int32.not_le] at h9; omega
        refine lv_aload_n hx hb dX12_mayStand_38 rfl (lv_at hl 4 rfl) ?_
        refine va_get (D := D) (ci := 11) (v := .ref (ad 80)) (C := RX12) (T := TX12) (N := 85) hx hb hts inX12 hown hK hP 0 mwd_o0 rfl 80 (by decide) fl176 (fun _ h9 => h9) rfl dX12_mayStand_39 ?_
        refine lv_iload_n hx hb dX12_mayStand_42 rfl (lv_at hl 3 rfl) ?_
        refine va_iald hx hb hK hP 54 2 mwd_a54 rfl (x_in (by omega) (by omega)) dX12_mayStand_43 ?_
        refine lv_topi (fun i_2 ei_2 => ?_)
        have ei_2 : i_2 = (σ.2.2.1 80) (Int32.toNatClampNeg i) := ei_2
        have qi_2 : i_2.toInt = ((σ.2.2.1 80) (Int32.toNatClampNeg i)).toInt := by rw [ei_2]
        have bi_2 := b_at hB80 ei_2
        refine lv_iload_n hx hb dX12_mayStand_44 rfl (lv_at hl 1 rfl) ?_
        refine lv_icmp_gt (tgt := 58) hx hb dX12_mayStand_45 (by decide) (fun c_3 => ?_) (fun c_3 => ?_)
        · have kc_3 : i_2.toInt > us.toInt := by have h9 := c_3; simp only [ge_iff_le, gt_iff_lt, x_lt, x_le, x_eq, ne_eq, Int32.not_lt, Int32.not_le] at h9; omega
          refine lv_iconst (v := 0) hx hb dX12_mayStand_58 (by decide) ?_
          exact x_zretW (v := 0) (u := ()) hx hb hr hQ rfl ⟨by omega, fun h9 => by have h8 := hU h9.1; omega⟩ hP hD hK hS dX12_mayStand_59 hlocks
        · have kc_3 : i_2.toInt ≤ us.toInt := by have h9 := c_3; simp only [ge_iff_le, gt_iff_lt, x_lt, x_le, x_eq, ne_eq, Int32.not_lt, Int32.not_le] at h9; omega
          refine lv_aload_n hx hb dX12_mayStand_48 rfl (lv_at hl 4 rfl) ?_
          refine va_get (D := D) (ci := 11) (v := .ref (ad 80)) (C := RX12) (T := TX12) (N := 85) hx hb hts inX12 hown hK hP 0 mwd_o0 rfl 80 (by decide) fl176 (fun _ h9 => h9) rfl dX12_mayStand_49 ?_
          refine lv_iload_n hx hb dX12_mayStand_52 rfl (lv_at hl 3 rfl) ?_
          refine va_iald hx hb hK hP 54 2 mwd_a54 rfl (x_in (by omega) (by omega)) dX12_mayStand_53 ?_
          refine lv_topi (fun i_4 ei_4 => ?_)
          have ei_4 : i_4 = (σ.2.2.1 80) (Int32.toNatClampNeg i) := ei_4
          have qi_4 : i_4.toInt = ((σ.2.2.1 80) (Int32.toNatClampNeg i)).toInt := by rw [ei_4]
          have bi_4 := b_at hB80 ei_4
          refine lv_iload_n hx hb dX12_mayStand_54 rfl (lv_at hl 2 rfl) ?_
          refine lv_icmp_lt (tgt := 60) hx hb dX12_mayStand_55 (by decide) (fun c_5 => ?_) (fun c_5 => ?_)
          · have kc_5 : i_4.toInt < m9.toInt := by have h9 := c_5; simp only [ge_iff_le, gt_iff_lt, x_lt, x_le, x_eq, ne_eq, Int32.not_lt, Int32.not_le] at h9; omega
            refine lv_iconst (v := 0) hx hb dX12_mayStand_60 (by decide) ?_
            refine lv_istore (lv' := [(4, .int 0), (3, .int us), (2, .int m9), (1, .int i), (0, .ref (ad 1))]) hx hb dX12_mayStand_61 hl (by decide) rfl (fun ls hl => ?_)
            have loop2 : ∀ (fu : Nat) (j : Int32) (H : Heap) (locs : List Loc) (ls : Array Slot), (0 ≤ j.toInt) → (j.toInt ≤ i.toInt) → (i.toInt - j.toInt < (fu : Int)) → va_P D vwCl (mwd y ad zw σ) H → va_D A (mwd y ad zw σ) → va_S A s.heap H locs → lv_has ls 5 [(4, .int j), (3, .int us), (2, .int m9), (1, .int i), (0, .ref (ad 1))] → W p l e ({ frames := 0, cells := 0, slots := 0, locals := 0 } : Room) s m ([.ref (ad 1), .int i, .int m9] : List Value).toArray below meth c H locs 0 0 Q (F0 m 63 ls []) := by
              intro fu
              induction fu with
              | zero =>
                intro j H locs ls hj0 hj1 hm
                exact absurd hm (by omega)
              | succ fu ih_loop2 =>
                intro j H locs ls hj0 hj1 hm hP hD hS hl
                refine lv_iload hx hb dX12_mayStand_63 (lv_at hl 0 rfl) ?_
                refine lv_iload_n hx hb dX12_mayStand_65 rfl (lv_at hl 3 rfl) ?_
                refine lv_icmp_ge (tgt := 108) hx hb dX12_mayStand_66 (by decide) (fun c_6 => ?_) (fun c_6 => ?_)
                · have kc_6 : j.toInt ≥ i.toInt := by have h9 := c_6; simp only [ge_iff_le, gt_iff_lt, x_lt, x_le, x_eq, ne_eq, Int32.not_lt, Int32.not_le] at h9; omega
                  refine lv_iconst (v := 1) hx hb dX12_mayStand_108 (by decide) ?_
                  exact x_zretW (v := 1) (u := ()) hx hb hr hQ rfl ⟨by omega, fun _ => by omega⟩ hP hD hK hS dX12_mayStand_109 hlocks
                · have kc_6 : j.toInt < i.toInt := by have h9 := c_6; simp only [ge_iff_le, gt_iff_lt, x_lt, x_le, x_eq, ne_eq, Int32.not_lt, Int32.not_le] at h9; omega
                  refine lv_aload_n hx hb dX12_mayStand_69 rfl (lv_at hl 4 rfl) ?_
                  refine va_get (D := D) (ci := 11) (v := .ref (ad 80)) (C := RX12) (T := TX12) (N := 85) hx hb hts inX12 hown hK hP 0 mwd_o0 rfl 80 (by decide) fl176 (fun _ h9 => h9) rfl dX12_mayStand_70 ?_
                  refine lv_iload hx hb dX12_mayStand_73 (lv_at hl 0 rfl) ?_
                  refine va_iald hx hb hK hP 54 2 mwd_a54 rfl (x_in (by omega) (by omega)) dX12_mayStand_75 ?_
                  refine lv_topi (fun i_7 ei_7 => ?_)
                  have ei_7 : i_7 = (σ.2.2.1 80) (Int32.toNatClampNeg j) := ei_7
                  have qi_7 : i_7.toInt = ((σ.2.2.1 80) (Int32.toNatClampNeg j)).toInt := by rw [ei_7]
                  have bi_7 := b_at hB80 ei_7
                  refine lv_aload_n hx hb dX12_mayStand_76 rfl (lv_at hl 4 rfl) ?_
                  refine va_get (D := D) (ci := 11) (v := .ref (ad 80)) (C := RX12) (T := TX12) (N := 85) hx hb hts inX12 hown hK hP 0 mwd_o0 rfl 80 (by decide) fl176 (fun _ h9 => h9) rfl dX12_mayStand_77 ?_
                  refine lv_iload_n hx hb dX12_mayStand_80 rfl (lv_at hl 3 rfl) ?_
                  refine va_iald hx hb hK hP 54 2 mwd_a54 rfl (x_in (by omega) (by omega)) dX12_mayStand_81 ?_
                  refine lv_topi (fun i_8 ei_8 => ?_)
                  have ei_8 : i_8 = (σ.2.2.1 80) (Int32.toNatClampNeg i) := ei_8
                  have qi_8 : i_8.toInt = ((σ.2.2.1 80) (Int32.toNatClampNeg i)).toInt := by rw [ei_8]
                  have bi_8 := b_at hB80 ei_8
                  refine lv_icmp_ne (tgt := 102) hx hb dX12_mayStand_82 (by decide) (fun c_9 => ?_) (fun c_9 => ?_)
                  · have kc_9 : i_7.toInt ≠ i_8.toInt := by have h9 := c_9; simp only [ge_iff_le, gt_iff_lt, x_lt, x_le, x_eq, ne_eq, Int32.not_lt, Int32.not_le] at h9; omega
                    obtain ⟨i_10, ei_10⟩ : ∃ z9 : Int32, z9 = j + 1 := ⟨_, rfl⟩
                    have vi_10 : i_10.toInt = j.toInt + 1 := by have h9 := x_add ei_10 (by omega) (by omega); omega
                    refine lv_iinc (v := i_10) (lv' := [(4, .int i_10), (3, .int us), (2, .int m9), (1, .int i), (0, .ref (ad 1))]) hx hb dX12_mayStand_102 hl (k := 0) rfl (by rw [ei_10]; rfl) (by decide) rfl (fun ls hl => ?_)
                    refine lv_goto (tgt := 63) hx hb dX12_mayStand_105 (by decide) ?_
                    exact ih_loop2 i_10 H locs ls (by omega) (by omega) (by omega) hP hD hS (lv_sub hl [0, 1, 2, 3, 4] rfl)
                  · have kc_9 : i_7.toInt = i_8.toInt := by have h9 := c_9; simp only [ge_iff_le, gt_iff_lt, x_lt, x_le, x_eq, ne_eq, Int32.not_lt, Int32.not_le] at h9; omega
                    refine lv_aload_n hx hb dX12_mayStand_85 rfl (lv_at hl 4 rfl) ?_
                    refine va_get (D := D) (ci := 11) (v := .ref (ad 81)) (C := RX12) (T := TX12) (N := 85) hx hb hts inX12 hown hK hP 0 mwd_o0 rfl 81 (by decide) fl179 (fun _ h9 => h9) rfl dX12_mayStand_86 ?_
                    refine lv_iload_n hx hb dX12_mayStand_89 rfl (lv_at hl 3 rfl) ?_
                    refine va_iald hx hb hK hP 55 2 mwd_a55 rfl (x_in (by omega) (by omega)) dX12_mayStand_90 ?_
                    refine lv_topi (fun i_11 ei_11 => ?_)
                    have ei_11 : i_11 = (σ.2.2.1 81) (Int32.toNatClampNeg i) := ei_11
                    refine lv_iload hx hb dX12_mayStand_91 (lv_at hl 0 rfl) ?_
                    refine lv_ishr hx hb dX12_mayStand_93 ?_
                    refine lv_topi (fun i_12 ei_12 => ?_)
                    refine lv_iconst (v := 1) hx hb dX12_mayStand_94 (by decide) ?_
                    refine lv_iand hx hb dX12_mayStand_95 ?_
                    refine lv_topi (fun i_13 ei_13 => ?_)
                    refine lv_iconst (v := 1) hx hb dX12_mayStand_96 (by decide) ?_
                    refine lv_icmp_ne (tgt := 102) hx hb dX12_mayStand_97 (by decide) (fun c_14 => ?_) (fun c_14 => ?_)
                    · have kc_14 : i_13.toInt ≠ 1 := by have h9 := c_14; simp only [ge_iff_le, gt_iff_lt, x_lt, x_le, x_eq, ne_eq, Int32.not_lt, Int32.not_le] at h9; simp only [Int32.reduceToInt] at h9; omega
                      obtain ⟨i_15, ei_15⟩ : ∃ z9 : Int32, z9 = j + 1 := ⟨_, rfl⟩
                      have vi_15 : i_15.toInt = j.toInt + 1 := by have h9 := x_add ei_15 (by omega) (by omega); omega
                      refine lv_iinc (v := i_15) (lv' := [(4, .int i_15), (3, .int us), (2, .int m9), (1, .int i), (0, .ref (ad 1))]) hx hb dX12_mayStand_102 hl (k := 0) rfl (by rw [ei_15]; rfl) (by decide) rfl (fun ls hl => ?_)
                      refine lv_goto (tgt := 63) hx hb dX12_mayStand_105 (by decide) ?_
                      exact ih_loop2 i_15 H locs ls (by omega) (by omega) (by omega) hP hD hS (lv_sub hl [0, 1, 2, 3, 4] rfl)
                    · have kc_14 : i_13.toInt = 1 := by have h9 := c_14; simp only [ge_iff_le, gt_iff_lt, x_lt, x_le, x_eq, ne_eq, Int32.not_lt, Int32.not_le] at h9; simp only [Int32.reduceToInt] at h9; omega
                      refine lv_iconst (v := 0) hx hb dX12_mayStand_100 (by decide) ?_
                      exact x_zretW (v := 0) (u := ()) hx hb hr hQ rfl ⟨by omega, fun h9 => by have q8 : Int32.toNatClampNeg j = j.toInt.toNat := rfl; have h8 := h9.1 (Int32.toNatClampNeg j) (by omega); omega⟩ hP hD hK hS dX12_mayStand_101 hlocks
            exact loop2 8 0 H locs ls (by decide) (by have h7 : (0 : Int32).toInt = 0 := rfl; omega) (by have h7 : (0 : Int32).toInt = 0 := rfl; omega) hP hD hS (lv_sub hl [0, 1, 2, 3, 4] rfl)
          · have kc_5 : i_4.toInt ≥ m9.toInt := by have h9 := c_5; simp only [ge_iff_le, gt_iff_lt, x_lt, x_le, x_eq, ne_eq, Int32.not_lt, Int32.not_le] at h9; omega
            refine lv_iconst (v := 0) hx hb dX12_mayStand_58 (by decide) ?_
            exact x_zretW (v := 0) (u := ()) hx hb hr hQ rfl ⟨by omega, fun h9 => by have h8 := hU h9.1; omega⟩ hP hD hK hS dX12_mayStand_59 hlocks
      · have kc_1 : j.toInt < i.toInt := by have h9 := c_1; simp only [ge_iff_le, gt_iff_lt, x_lt, x_le, x_eq, ne_eq, Int32.not_lt, Int32.not_le] at h9; omega
        refine lv_aload_n hx hb dX12_mayStand_11 rfl (lv_at hl 4 rfl) ?_
        refine va_get (D := D) (ci := 11) (v := .ref (ad 80)) (C := RX12) (T := TX12) (N := 85) hx hb hts inX12 hown hK hP 0 mwd_o0 rfl 80 (by decide) fl176 (fun _ h9 => h9) rfl dX12_mayStand_12 ?_
        refine lv_iload hx hb dX12_mayStand_15 (lv_at hl 0 rfl) ?_
        refine va_iald hx hb hK hP 54 2 mwd_a54 rfl (x_in (by omega) (by omega)) dX12_mayStand_17 ?_
        refine lv_topi (fun i_16 ei_16 => ?_)
        have ei_16 : i_16 = (σ.2.2.1 80) (Int32.toNatClampNeg j) := ei_16
        have qi_16 : i_16.toInt = ((σ.2.2.1 80) (Int32.toNatClampNeg j)).toInt := by rw [ei_16]
        have bi_16 := b_at hB80 ei_16
        refine lv_iload_n hx hb dX12_mayStand_18 rfl (lv_at hl 1 rfl) ?_
        refine lv_icmp_lt (tgt := 32) hx hb dX12_mayStand_19 (by decide) (fun c_17 => ?_) (fun c_17 => ?_)
        · have kc_17 : i_16.toInt < us.toInt := by have h9 := c_17; simp only [ge_iff_le, gt_iff_lt, x_lt, x_le, x_eq, ne_eq, Int32.not_lt, Int32.not_le] at h9; omega
          obtain ⟨i_18, ei_18⟩ : ∃ z9 : Int32, z9 = j + 1 := ⟨_, rfl⟩
          have vi_18 : i_18.toInt = j.toInt + 1 := by have h9 := x_add ei_18 (by omega) (by omega); omega
          refine lv_iinc (v := i_18) (lv' := [(4, .int i_18), (3, .int us), (2, .int m9), (1, .int i), (0, .ref (ad 1))]) hx hb dX12_mayStand_32 hl (k := 0) rfl (by rw [ei_18]; rfl) (by decide) rfl (fun ls hl => ?_)
          refine lv_goto (tgt := 5) hx hb dX12_mayStand_35 (by decide) ?_
          exact ih_loop i_18 us H locs ls (by omega) (by omega) (by omega) (by omega) (fun h9 => by have q8 : Int32.toNatClampNeg j = j.toInt.toNat := rfl; have h8 := hU h9; have h7 := h9 (Int32.toNatClampNeg j) (by omega); omega) (by omega) hP hD hS (lv_sub hl [0, 1, 2, 3, 4] rfl)
        · have kc_17 : i_16.toInt ≥ us.toInt := by have h9 := c_17; simp only [ge_iff_le, gt_iff_lt, x_lt, x_le, x_eq, ne_eq, Int32.not_lt, Int32.not_le] at h9; omega
          refine lv_aload_n hx hb dX12_mayStand_22 rfl (lv_at hl 4 rfl) ?_
          refine va_get (D := D) (ci := 11) (v := .ref (ad 80)) (C := RX12) (T := TX12) (N := 85) hx hb hts inX12 hown hK hP 0 mwd_o0 rfl 80 (by decide) fl176 (fun _ h9 => h9) rfl dX12_mayStand_23 ?_
          refine lv_iload hx hb dX12_mayStand_26 (lv_at hl 0 rfl) ?_
          refine va_iald hx hb hK hP 54 2 mwd_a54 rfl (x_in (by omega) (by omega)) dX12_mayStand_28 ?_
          refine lv_topi (fun i_19 ei_19 => ?_)
          have ei_19 : i_19 = (σ.2.2.1 80) (Int32.toNatClampNeg j) := ei_19
          have qi_19 : i_19.toInt = ((σ.2.2.1 80) (Int32.toNatClampNeg j)).toInt := by rw [ei_19]
          have bi_19 := b_at hB80 ei_19
          refine lv_iconst (v := 1) hx hb dX12_mayStand_29 (by decide) ?_
          refine lv_iadd hx hb dX12_mayStand_30 ?_
          refine lv_topi (fun i_20 ei_20 => ?_)
          have vi_20 : i_20.toInt = i_19.toInt + 1 := by have h9 := x_add ei_20 (by omega) (by omega); omega
          refine lv_istore_n (lv' := [(3, .int i_20), (4, .int j), (2, .int m9), (1, .int i), (0, .ref (ad 1))]) hx hb dX12_mayStand_31 rfl hl (by decide) rfl (fun ls hl => ?_)
          obtain ⟨i_21, ei_21⟩ : ∃ z9 : Int32, z9 = j + 1 := ⟨_, rfl⟩
          have vi_21 : i_21.toInt = j.toInt + 1 := by have h9 := x_add ei_21 (by omega) (by omega); omega
          refine lv_iinc (v := i_21) (lv' := [(4, .int i_21), (3, .int i_20), (2, .int m9), (1, .int i), (0, .ref (ad 1))]) hx hb dX12_mayStand_32 hl (k := 1) rfl (by rw [ei_21]; rfl) (by decide) rfl (fun ls hl => ?_)
          refine lv_goto (tgt := 5) hx hb dX12_mayStand_35 (by decide) ?_
          exact ih_loop i_21 i_20 H locs ls (by omega) (by omega) (by omega) (by omega) (fun h9 => by have q8 : Int32.toNatClampNeg j = j.toInt.toNat := rfl; have h8 := hU h9; have h7 := h9 (Int32.toNatClampNeg j) (by omega); omega) (by omega) hP hD hS (lv_sub hl [0, 1, 2, 3, 4] rfl)
  exact loop 8 0 0 H locs ls (by decide) (by have h7 : (0 : Int32).toInt = 0 := rfl; omega) (by decide) (by decide) (fun _ => rfl) (by have h7 : (0 : Int32).toInt = 0 := rfl; omega) hP hD hS (lv_sub hl [0, 1, 4, 3, 2] rfl)

def v_q_parts : List Cond := .code yX12_parts cX12_parts 3 (some .boolean) :: ([.fieldLink RX12 176 "SlopeRunnerModel" "groupOf" "[I", .fieldLink RX12 488 "SlopeRunnerModel" "groupInputs" "I"] ++ ((wsV RX12 491 RX12 yX12_mayStand v_q_mayStand) ++ wsX120))
theorem g_q_parts_0 : GoodIn v_q_parts (wsV RX12 491 RX12 yX12_mayStand v_q_mayStand) := goodIn_sub (fun w h => List.mem_cons_of_mem _ (List.mem_append_right _ (List.mem_append_left _ h))) (by decide +kernel)
set_option maxHeartbeats 4000000 in
set_option maxRecDepth 100000 in
theorem q_parts (l : Launch) (D : va_G) (y : Nat → ClassId) (sz : Nat) (ad : Nat → Nat) (zw : Nat → Nat → Int32) (σ : OS) (m9 : Int32) (hn0 : 0 ≤ (σ.1 79).toInt) (hn1 : (σ.1 79).toInt ≤ 8) (hB80 : bI (σ.2.2.1 80) (-1) 9) : Met l yX12_parts v_q_parts ({ frames := 1, cells := 0, slots := 0, locals := 24 } : Room) (va_Pc [.ref (ad 1), .int m9] (xPre D (xT y) (mwd y ad zw σ) sz)) (va_Qi (fun (r : Int32) (u : (Nat → Int32)) => ((r.toInt = 0 ∨ r.toInt = 1) ∧ ((σ.1 79).toInt ≤ m9.toInt → r.toInt = 1)) ∧ bI u (-1) 9) (fun (u : (Nat → Int32)) => xB D (xT y) (va_A (mwd y ad zw σ) sz) (mwd y ad zw (tI σ 80 u))) (va_A (mwd y ad zw σ) sz)) 0 0 (va_A (mwd y ad zw σ) sz) := by
  refine x_meti (cc := cX12_parts) (maxL := 3) (by decide) rfl (Nat.le_of_ble_eq_true rfl) ?_
  intro p e s m below meth c A H locs Q hx hb hml hown hts hr hlocks hmn hA hP hK hD hS ls hl hQ
  have hl : lv_has ls 3 [(0, .ref (ad 1)), (1, .int m9)] := hl
  have fl176 := hts (.fieldLink RX12 176 "SlopeRunnerModel" "groupOf" "[I") (List.mem_of_getElem? (i := 1) rfl)
  have inX12 : ∀ w ∈ wsX120, w ∈ v_q_parts := (fun w h => List.mem_cons_of_mem _ (List.mem_append_right _ (List.mem_append_right _ h)))
  have kk_0 : (0 : Int32).toInt = 0 := rfl
  have kk_1 : (1 : Int32).toInt = 1 := rfl
  have fl488 := hts (.fieldLink RX12 488 "SlopeRunnerModel" "groupInputs" "I") (List.mem_of_getElem? (i := 2) rfl)
  have kk_8 : (8 : Int32).toInt = 8 := rfl
  have kk_m1 : ((-1) : Int32).toInt = -1 := rfl
  refine lv_iconst (v := 0) hx hb dX12_parts_0 (by decide) ?_
  refine lv_istore_n (lv' := [(2, .int 0), (0, .ref (ad 1)), (1, .int m9)]) hx hb dX12_parts_1 rfl hl (by decide) rfl (fun ls hl => ?_)
  refine lv_aload_n hx hb dX12_parts_2 rfl (lv_at hl 1 rfl) ?_
  refine va_get (D := D) (ci := 11) (v := .ref (ad 80)) (C := RX12) (T := TX12) (N := 85) hx hb hts inX12 hown hK hP 0 mwd_o0 rfl 80 (by decide) fl176 (fun _ h9 => h9) rfl dX12_parts_3 ?_
  refine lv_iconst (v := 0) hx hb dX12_parts_6 (by decide) ?_
  refine lv_iconst (v := (-1)) hx hb dX12_parts_7 (by decide) ?_
  refine va_iast hx hb hK hP hD hS 54 2 mwd_a54 rfl (x_in (by decide) (by decide)) dX12_parts_8 (fun H locs hP hD hS => ?_)
  obtain ⟨f_1, ef_1⟩ : ∃ z9 : Nat → Int32, z9 = (upd (σ.2.2.1 80) (Int32.toNatClampNeg 0) (-1)) := ⟨_, rfl⟩
  have hP : va_P D vwCl (mwd y ad zw (tI σ 80 f_1)) H := by rw [ef_1]; exact x_trP hP mwd_s54
  have hD : va_D A (mwd y ad zw (tI σ 80 f_1)) := by rw [ef_1]; exact x_trD hD mwd_s54
  have hvf_1 : bI f_1 (-1) 9 := by rw [ef_1]; exact b_upd hB80 (by have h7 : ((-1) : Int32).toInt = -1 := rfl; omega) (by have h7 : ((-1) : Int32).toInt = -1 := rfl; omega)
  have sf_1 : (f_1 0).toInt = -1 := by rw [ef_1]; exact congrArg Int32.toInt (x_upd_same _ 0 _)
  have loop : ∀ (fu : Nat) (i : Int32) (g : Nat → Int32) (H : Heap) (locs : List Loc) (ls : Array Slot), (bI g (-1) 9) → (-1 ≤ i.toInt) → (i.toInt ≤ (σ.1 79).toInt) → (∀ k9 : Nat, (k9 : Int) ≤ i.toInt → (k9 : Int) < (σ.1 79).toInt → (g k9).toInt ≤ 8) → ((σ.1 79).toInt ≤ m9.toInt → PP g i.toInt (σ.1 79).toInt) → (MS g i.toInt (σ.1 79).toInt < (fu : Int)) → va_P D vwCl (mwd y ad zw (tI σ 80 g)) H → va_D A (mwd y ad zw (tI σ 80 g)) → va_S A s.heap H locs → lv_has ls 3 [(2, .int i), (1, .int m9), (0, .ref (ad 1))] → W p l e ({ frames := 1, cells := 0, slots := 0, locals := 24 } : Room) s m ([.ref (ad 1), .int m9] : List Value).toArray below meth c H locs 0 0 Q (F0 m 9 ls []) := by
    intro fu
    induction fu with
    | zero =>
      intro i g H locs ls hg hi0 hi1 h8 hJ hm
      exact absurd hm (by have h7 := MS_nn hg i.toInt (σ.1 79).toInt; omega)
    | succ fu ih_loop =>
      intro i g H locs ls hg hi0 hi1 h8 hJ hm hP hD hS hl
      refine lv_iload_n hx hb dX12_parts_9 rfl (lv_at hl 0 rfl) ?_
      refine lv_if_lt (tgt := 78) hx hb dX12_parts_10 (by decide) (fun c_2 => ?_) (fun c_2 => ?_)
      · have kc_2 : i.toInt < 0 := by have h9 := c_2; simp only [ge_iff_le, gt_iff_lt, x_lt, x_le, x_eq, ne_eq, Int32.not_lt, Int32.not_le] at h9; simp only [Int32.reduceToInt] at h9; omega
        refine lv_iload_n hx hb dX12_parts_78 rfl (lv_at hl 0 rfl) ?_
        refine lv_if_lt (tgt := 86) hx hb dX12_parts_79 (by decide) (fun c_3 => ?_) (fun c_3 => ?_)
        · have kc_3 : i.toInt < 0 := by have h9 := c_3; simp only [ge_iff_le, gt_iff_lt, x_lt, x_le, x_eq, ne_eq, Int32.not_lt, Int32.not_le] at h9; simp only [Int32.reduceToInt] at h9; omega
          refine lv_iconst (v := 0) hx hb dX12_parts_86 (by decide) ?_
          exact x_zretW (v := 0) (u := g) hx hb hr hQ rfl ⟨⟨by omega, fun h9 => by have h7 := (hJ h9).1; omega⟩, hg⟩ hP hD hK hS dX12_parts_87 hlocks
        · have kc_3 : i.toInt ≥ 0 := by have h9 := c_3; simp only [ge_iff_le, gt_iff_lt, x_lt, x_le, x_eq, ne_eq, Int32.not_lt, Int32.not_le] at h9; simp only [Int32.reduceToInt] at h9; omega
          refine lv_iconst (v := 1) hx hb dX12_parts_82 (by decide) ?_
          refine lv_goto (tgt := 87) hx hb dX12_parts_83 (by decide) ?_
          exact x_zretW (v := 1) (u := g) hx hb hr hQ rfl ⟨⟨by omega, fun _ => by omega⟩, hg⟩ hP hD hK hS dX12_parts_87 hlocks
      · have kc_2 : i.toInt ≥ 0 := by have h9 := c_2; simp only [ge_iff_le, gt_iff_lt, x_lt, x_le, x_eq, ne_eq, Int32.not_lt, Int32.not_le] at h9; simp only [Int32.reduceToInt] at h9; omega
        refine lv_iload_n hx hb dX12_parts_13 rfl (lv_at hl 0 rfl) ?_
        refine lv_aload_n hx hb dX12_parts_14 rfl (lv_at hl 2 rfl) ?_
        refine va_get (D := D) (ci := 11) (v := .int (σ.1 79)) (C := RX12) (T := TX12) (N := 85) hx hb hts inX12 hown hK hP 0 mwd_o0 rfl 79 (by decide) fl488 (fun _ h9 => h9) rfl dX12_parts_15 ?_
        refine lv_icmp_ge (tgt := 78) hx hb dX12_parts_18 (by decide) (fun c_4 => ?_) (fun c_4 => ?_)
        · have kc_4 : i.toInt ≥ (σ.1 79).toInt := by have h9 := c_4; simp only [ge_iff_le, gt_iff_lt, x_lt, x_le, x_eq, ne_eq, Int32.not_lt, Int32.not_le] at h9; omega
          refine lv_iload_n hx hb dX12_parts_78 rfl (lv_at hl 0 rfl) ?_
          refine lv_if_lt (tgt := 86) hx hb dX12_parts_79 (by decide) (fun c_5 => ?_) (fun c_5 => ?_)
          · have kc_5 : i.toInt < 0 := by have h9 := c_5; simp only [ge_iff_le, gt_iff_lt, x_lt, x_le, x_eq, ne_eq, Int32.not_lt, Int32.not_le] at h9; simp only [Int32.reduceToInt] at h9; omega
            refine lv_iconst (v := 0) hx hb dX12_parts_86 (by decide) ?_
            exact x_zretW (v := 0) (u := g) hx hb hr hQ rfl ⟨⟨by omega, fun h9 => by have h7 := (hJ h9).1; omega⟩, hg⟩ hP hD hK hS dX12_parts_87 hlocks
          · have kc_5 : i.toInt ≥ 0 := by have h9 := c_5; simp only [ge_iff_le, gt_iff_lt, x_lt, x_le, x_eq, ne_eq, Int32.not_lt, Int32.not_le] at h9; simp only [Int32.reduceToInt] at h9; omega
            refine lv_iconst (v := 1) hx hb dX12_parts_82 (by decide) ?_
            refine lv_goto (tgt := 87) hx hb dX12_parts_83 (by decide) ?_
            exact x_zretW (v := 1) (u := g) hx hb hr hQ rfl ⟨⟨by omega, fun _ => by omega⟩, hg⟩ hP hD hK hS dX12_parts_87 hlocks
        · have kc_4 : i.toInt < (σ.1 79).toInt := by have h9 := c_4; simp only [ge_iff_le, gt_iff_lt, x_lt, x_le, x_eq, ne_eq, Int32.not_lt, Int32.not_le] at h9; omega
          refine lv_aload_n hx hb dX12_parts_21 rfl (lv_at hl 2 rfl) ?_
          obtain ⟨a, ha⟩ : ∃ a : Nat, i.toInt = (a : Int) := ⟨i.toInt.toNat, by omega⟩
          have hcl : Int32.toNatClampNeg i = a := x_cl ha
          have h8a := h8 a (by omega) (by omega)
          rw [ha] at hJ hm
          refine va_get (D := D) (ci := 11) (v := .ref (ad 80)) (C := RX12) (T := TX12) (N := 85) hx hb hts inX12 hown hK hP 0 mwd_o0 rfl 80 (by decide) fl176 (fun _ h9 => h9) rfl dX12_parts_22 ?_
          refine lv_iload_n hx hb dX12_parts_25 rfl (lv_at hl 0 rfl) ?_
          refine lv_dup2_11 hx hb dX12_parts_26 rfl rfl ?_
          refine va_iald hx hb hK hP 54 2 mwd_a54 rfl (x_in (by omega) (by omega)) dX12_parts_27 ?_
          refine lv_topi (fun i_6 ei_6 => ?_)
          have ei_6 : i_6 = g (Int32.toNatClampNeg i) := ei_6
          have qi_6 : i_6.toInt = (g (Int32.toNatClampNeg i)).toInt := by rw [ei_6]
          rw [hcl] at qi_6
          have bi_6 := b_at hg ei_6
          refine lv_iconst (v := 1) hx hb dX12_parts_28 (by decide) ?_
          refine lv_iadd hx hb dX12_parts_29 ?_
          refine lv_topi (fun i_7 ei_7 => ?_)
          have vi_7 : i_7.toInt = i_6.toInt + 1 := by have h9 := x_add ei_7 (by omega) (by omega); omega
          refine va_iast hx hb hK hP hD hS 54 2 mwd_a54 rfl (x_in (by omega) (by omega)) dX12_parts_30 (fun H locs hP hD hS => ?_)
          obtain ⟨f_8, ef_8⟩ : ∃ z9 : Nat → Int32, z9 = (upd g (Int32.toNatClampNeg i) i_7) := ⟨_, rfl⟩
          have hP : va_P D vwCl (mwd y ad zw (tI (tI σ 80 g) 80 f_8)) H := by rw [ef_8]; exact x_trP hP mwd_s54
          have hD : va_D A (mwd y ad zw (tI (tI σ 80 g) 80 f_8)) := by rw [ef_8]; exact x_trD hD mwd_s54
          have hvf_8 : bI f_8 (-1) 9 := by rw [ef_8]; exact b_upd hg (by omega) (by omega)
          rw [hcl] at ef_8
          have hv1 : i_7.toInt = (g a).toInt + 1 := by omega
          have sf_8 : (f_8 a).toInt = i_7.toInt := by rw [ef_8, x_upd_same]
          refine lv_aload_n hx hb dX12_parts_31 rfl (lv_at hl 2 rfl) ?_
          refine va_get (D := D) (ci := 11) (v := .ref (ad 80)) (C := RX12) (T := TX12) (N := 85) hx hb hts inX12 hown hK hP 0 mwd_o0 rfl 80 (by decide) fl176 (fun _ h9 => h9) rfl dX12_parts_32 ?_
          refine lv_iload_n hx hb dX12_parts_35 rfl (lv_at hl 0 rfl) ?_
          refine va_iald hx hb hK hP 54 2 mwd_a54 rfl (x_in (by omega) (by omega)) dX12_parts_36 ?_
          refine lv_topi (fun i_9 ei_9 => ?_)
          have ei_9 : i_9 = f_8 (Int32.toNatClampNeg i) := ei_9
          have qi_9 : i_9.toInt = (f_8 (Int32.toNatClampNeg i)).toInt := by rw [ei_9]
          rw [hcl] at qi_9
          have bi_9 := b_at hvf_8 ei_9
          refine lv_bipush (v := 8) hx hb dX12_parts_37 (by decide) ?_
          refine lv_icmp_le (tgt := 48) hx hb dX12_parts_39 (by decide) (fun c_10 => ?_) (fun c_10 => ?_)
          · have kc_10 : i_9.toInt ≤ 8 := by have h9 := c_10; simp only [ge_iff_le, gt_iff_lt, x_lt, x_le, x_eq, ne_eq, Int32.not_lt, Int32.not_le] at h9; simp only [Int32.reduceToInt] at h9; omega
            refine lv_aload_n hx hb dX12_parts_48 rfl (lv_at hl 2 rfl) ?_
            refine lv_iload_n hx hb dX12_parts_49 rfl (lv_at hl 0 rfl) ?_
            refine lv_iload_n hx hb dX12_parts_50 rfl (lv_at hl 1 rfl) ?_
            refine x_calliW (va_runV (As := [.int i, .int m9]) (rest := []) ⟨hx, hb, hml, hown, hts⟩ (q_mayStand l D y H.size ad zw (tI (tI σ 80 g) 80 f_8) i m9 (by first | omega | decide) (by first | omega | decide) hvf_8) (cwV 2 hts g_q_parts_0 rfl rfl rfl (by decide +kernel) ⟨Nat.le_of_ble_eq_true rfl, Nat.le_of_ble_eq_true rfl⟩) (x_preV (q := (RX12, TX12, 85)) hK hP hD (ci := 11) (q0 := 0) rfl mwd_o0) rfl rfl hl.1 rfl (lv_room (Nat.le_of_ble_eq_true rfl)) dX12_parts_51 ⟨Nat.le_of_ble_eq_true rfl, Nat.le_of_ble_eq_true rfl⟩) hP hD hS hA (fun r_11 u H locs hw hP hD hS => ?_)
            try dsimp only at hw
            have hP : va_P D vwCl (mwd y ad zw (tI (tI σ 80 g) 80 f_8)) H := hP
            have hD : va_D A (mwd y ad zw (tI (tI σ 80 g) 80 f_8)) := hD
            have hw : (r_11.toInt = 0 ∨ r_11.toInt = 1) ∧ (((∀ k : Nat, (k : Int) < i.toInt → ((f_8) k).toInt = k) ∧ ((f_8) (Int32.toNatClampNeg i)).toInt = i.toInt ∧ i.toInt < m9.toInt) → r_11.toInt = 1) := hw
            obtain ⟨hw1, hw2⟩ := hw
            refine lv_if_eq (tgt := 9) hx hb dX12_parts_54 (by decide) (fun c_12 => ?_) (fun c_12 => ?_)
            · have kc_12 : r_11.toInt = 0 := by have h9 := c_12; simp only [ge_iff_le, gt_iff_lt, x_lt, x_le, x_eq, ne_eq, Int32.not_lt, Int32.not_le] at h9; simp only [Int32.reduceToInt] at h9; omega
              have hP : va_P D vwCl (mwd y ad zw (tI σ 80 f_8)) H := hP
              have hD : va_D A (mwd y ad zw (tI σ 80 f_8)) := hD
              exact ih_loop i f_8 H locs ls hvf_8 (by omega) (by omega) (fun k9 h9 h10 => by by_cases q7 : k9 = a <;> first | (rw [q7]; omega) | (rw [ef_8, x_upd_ne _ _ q7]; exact h8 k9 (by omega) (by omega))) (fun h9 => by rw [ha, ef_8]; exact PP_next (hJ h9) (by omega) hv1 (fun q7 => by have q6 := hw2 ⟨by rw [ha, ef_8]; exact q7.1, by rw [hcl]; omega, by omega⟩; omega)) (by have q7 := T_stay (n := (σ.1 79).toInt) (show (a : Int) < _ by omega) hv1; rw [← ef_8] at q7; rw [ha]; omega) hP hD hS (lv_sub hl [0, 1, 2] rfl)
            · have kc_12 : r_11.toInt ≠ 0 := by have h9 := c_12; simp only [ge_iff_le, gt_iff_lt, x_lt, x_le, x_eq, ne_eq, Int32.not_lt, Int32.not_le] at h9; simp only [Int32.reduceToInt] at h9; omega
              obtain ⟨i_13, ei_13⟩ : ∃ z9 : Int32, z9 = i + 1 := ⟨_, rfl⟩
              have vi_13 : i_13.toInt = i.toInt + 1 := by have h9 := x_add ei_13 (by omega) (by omega); omega
              refine lv_iinc (v := i_13) (lv' := [(2, .int i_13), (1, .int m9), (0, .ref (ad 1))]) hx hb dX12_parts_57 hl (k := 0) rfl (by rw [ei_13]; rfl) (by decide) rfl (fun ls hl => ?_)
              refine lv_iload_n hx hb dX12_parts_60 rfl (lv_at hl 0 rfl) ?_
              refine lv_aload_n hx hb dX12_parts_61 rfl (lv_at hl 2 rfl) ?_
              refine va_get (D := D) (ci := 11) (v := .int (σ.1 79)) (C := RX12) (T := TX12) (N := 85) hx hb hts inX12 hown hK hP 0 mwd_o0 rfl 79 (by decide) fl488 (fun _ h9 => h9) rfl dX12_parts_62 ?_
              refine lv_icmp_ge (tgt := 9) hx hb dX12_parts_65 (by decide) (fun c_14 => ?_) (fun c_14 => ?_)
              · have kc_14 : i_13.toInt ≥ (σ.1 79).toInt := by have h9 := c_14; simp only [ge_iff_le, gt_iff_lt, x_lt, x_le, x_eq, ne_eq, Int32.not_lt, Int32.not_le] at h9; omega
                have hP : va_P D vwCl (mwd y ad zw (tI σ 80 f_8)) H := hP
                have hD : va_D A (mwd y ad zw (tI σ 80 f_8)) := hD
                exact ih_loop i_13 f_8 H locs ls hvf_8 (by omega) (by omega) (fun k9 h9 h10 => by by_cases q7 : k9 = a <;> first | (rw [q7]; omega) | (rw [ef_8, x_upd_ne _ _ q7]; exact h8 k9 (by omega) (by omega))) (fun h9 => by rw [ef_8]; exact PP_end (hJ h9) (by omega) hv1 (by omega) (by omega)) (by have q7 := T_end (g' := f_8) hg (n := (σ.1 79).toInt) (j := i_13.toInt) (show (a : Int) < _ by omega) h8a (by omega); omega) hP hD hS (lv_sub hl [0, 1, 2] rfl)
              · have kc_14 : i_13.toInt < (σ.1 79).toInt := by have h9 := c_14; simp only [ge_iff_le, gt_iff_lt, x_lt, x_le, x_eq, ne_eq, Int32.not_lt, Int32.not_le] at h9; omega
                refine lv_aload_n hx hb dX12_parts_68 rfl (lv_at hl 2 rfl) ?_
                refine va_get (D := D) (ci := 11) (v := .ref (ad 80)) (C := RX12) (T := TX12) (N := 85) hx hb hts inX12 hown hK hP 0 mwd_o0 rfl 80 (by decide) fl176 (fun _ h9 => h9) rfl dX12_parts_69 ?_
                refine lv_iload_n hx hb dX12_parts_72 rfl (lv_at hl 0 rfl) ?_
                refine lv_iconst (v := (-1)) hx hb dX12_parts_73 (by decide) ?_
                refine va_iast hx hb hK hP hD hS 54 2 mwd_a54 rfl (x_in (by omega) (by omega)) dX12_parts_74 (fun H locs hP hD hS => ?_)
                obtain ⟨f_15, ef_15⟩ : ∃ z9 : Nat → Int32, z9 = (upd f_8 (Int32.toNatClampNeg i_13) (-1)) := ⟨_, rfl⟩
                have hP : va_P D vwCl (mwd y ad zw (tI (tI (tI σ 80 g) 80 f_8) 80 f_15)) H := by rw [ef_15]; exact x_trP hP mwd_s54
                have hD : va_D A (mwd y ad zw (tI (tI (tI σ 80 g) 80 f_8) 80 f_15)) := by rw [ef_15]; exact x_trD hD mwd_s54
                have hvf_15 : bI f_15 (-1) 9 := by rw [ef_15]; exact b_upd hvf_8 (by have h7 : ((-1) : Int32).toInt = -1 := rfl; omega) (by have h7 : ((-1) : Int32).toInt = -1 := rfl; omega)
                rw [x_cl (n := a + 1) (by push_cast; omega)] at ef_15
                refine lv_goto (tgt := 9) hx hb dX12_parts_75 (by decide) ?_
                have hP : va_P D vwCl (mwd y ad zw (tI σ 80 f_15)) H := hP
                have hD : va_D A (mwd y ad zw (tI σ 80 f_15)) := hD
                exact ih_loop i_13 f_15 H locs ls hvf_15 (by omega) (by omega) (fun k9 h9 h10 => by by_cases q6 : k9 = a + 1 <;> first | (rw [ef_15, q6, x_upd_same]; decide) | (rw [ef_15, x_upd_ne _ _ q6]; by_cases q7 : k9 = a <;> first | (rw [q7]; omega) | (rw [ef_8, x_upd_ne _ _ q7]; exact h8 k9 (by omega) (by omega)))) (fun h9 => by rw [ef_15, ef_8]; exact PP_adv (hJ h9) (by omega) hv1 (by decide) (by omega)) (by have q7 := T_adv hg (n := (σ.1 79).toInt) (j := i_13.toInt) (v := i_7) (v2 := (-1)) (by omega) (by omega) hv1 (by decide) (by omega); rw [← ef_8, ← ef_15] at q7; omega) hP hD hS (lv_sub hl [0, 1, 2] rfl)
          · have kc_10 : i_9.toInt > 8 := by have h9 := c_10; simp only [ge_iff_le, gt_iff_lt, x_lt, x_le, x_eq, ne_eq, Int32.not_lt, Int32.not_le] at h9; simp only [Int32.reduceToInt] at h9; omega
            obtain ⟨i_16, ei_16⟩ : ∃ z9 : Int32, z9 = i + (-1) := ⟨_, rfl⟩
            have vi_16 : i_16.toInt = i.toInt + (-1) := by have h9 := x_add ei_16 (by omega) (by omega); omega
            refine lv_iinc (v := i_16) (lv' := [(2, .int i_16), (1, .int m9), (0, .ref (ad 1))]) hx hb dX12_parts_42 hl (k := 0) rfl (by rw [ei_16]; rfl) (by decide) rfl (fun ls hl => ?_)
            refine lv_goto (tgt := 9) hx hb dX12_parts_45 (by decide) ?_
            have hP : va_P D vwCl (mwd y ad zw (tI σ 80 f_8)) H := hP
            have hD : va_D A (mwd y ad zw (tI σ 80 f_8)) := hD
            exact ih_loop i_16 f_8 H locs ls hvf_8 (by omega) (by omega) (fun k9 h9 h10 => by rw [ef_8, x_upd_ne _ _ (by omega)]; exact h8 k9 (by omega) (by omega)) (fun h9 => by rw [ef_8]; have q7 := PP_back (hJ h9) (by omega) (by omega) hv1 (by omega); rw [show i_16.toInt = (a : Int) - 1 by omega]; exact q7) (by have q7 := T_back (v := i_7) hg (n := (σ.1 79).toInt) (show (a : Int) < _ by omega) h8a; rw [← ef_8] at q7; rw [show i_16.toInt = (a : Int) - 1 by omega]; omega) hP hD hS (lv_sub hl [0, 1, 2] rfl)
  exact loop 500000000 0 f_1 H locs ls hvf_1 (by decide) (by have h7 : (0 : Int32).toInt = 0 := rfl; omega) (fun k9 h9 h10 => by have h7 : (0 : Int32).toInt = 0 := rfl; rw [show k9 = 0 by omega]; omega) (fun _ => ⟨by decide, 0, by decide, fun k9 h9 => absurd h9 (Nat.not_lt_zero _), fun _ => by rw [sf_1]; decide⟩) (by have h7 := T_start hB80 (σ.1 79).toInt hn1; have h6 : (0 : Int32).toInt = 0 := rfl; rw [h6]; have h5 := h7 f_1 (by assumption); omega) hP hD hS (lv_sub hl [0, 2, 1] rfl)

