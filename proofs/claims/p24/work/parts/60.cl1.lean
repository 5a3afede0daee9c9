theorem x_nneg {x : Int32} (h : 0 ≤ x.toInt) : ¬ x < 0 := fun h1 => by
  have h2 := Int32.lt_iff_toInt_lt.mp h1
  have h3 : (0 : Int32).toInt = 0 := rfl
  omega
theorem b_cpy {f g : Nat → Int32} {lo hi : Int} {a b n : Nat} (hf : bI f lo hi) (hg : bI g lo hi) : bI (va_cpy f g a b n) lo hi := fun i => by
  unfold va_cpy
  split
  · exact hf _
  · exact hg _

theorem dJ13_compare_74951_0 : decode cJ13_compare_74951 0 = .ok (.lload_n 0, 1) := by decide +kernel
theorem dJ13_compare_74951_1 : decode cJ13_compare_74951 1 = .ok (.lload_n 2, 1) := by decide +kernel
theorem dJ13_compare_74951_2 : decode cJ13_compare_74951 2 = .ok (.lcmp, 1) := by decide +kernel
theorem dJ13_compare_74951_3 : decode cJ13_compare_74951 3 = .ok (.ifCond .ge 7, 3) := by decide +kernel
theorem dJ13_compare_74951_6 : decode cJ13_compare_74951 6 = .ok (.iconst (-1), 1) := by decide +kernel
theorem dJ13_compare_74951_7 : decode cJ13_compare_74951 7 = .ok (.goto 14, 3) := by decide +kernel
theorem dJ13_compare_74951_10 : decode cJ13_compare_74951 10 = .ok (.lload_n 0, 1) := by decide +kernel
theorem dJ13_compare_74951_11 : decode cJ13_compare_74951 11 = .ok (.lload_n 2, 1) := by decide +kernel
theorem dJ13_compare_74951_12 : decode cJ13_compare_74951 12 = .ok (.lcmp, 1) := by decide +kernel
theorem dJ13_compare_74951_13 : decode cJ13_compare_74951 13 = .ok (.ifCond .ne 7, 3) := by decide +kernel
theorem dJ13_compare_74951_16 : decode cJ13_compare_74951 16 = .ok (.iconst 0, 1) := by decide +kernel
theorem dJ13_compare_74951_17 : decode cJ13_compare_74951 17 = .ok (.goto 4, 3) := by decide +kernel
theorem dJ13_compare_74951_20 : decode cJ13_compare_74951 20 = .ok (.iconst 1, 1) := by decide +kernel
theorem dJ13_compare_74951_21 : decode cJ13_compare_74951 21 = .ok (.ireturn, 1) := by decide +kernel
theorem dX0_above_0 : decode cX0_above 0 = .ok (.lload_n 0, 1) := by decide +kernel
theorem dX0_above_1 : decode cX0_above 1 = .ok (.bipush 30, 2) := by decide +kernel
theorem dX0_above_3 : decode cX0_above 3 = .ok (.lshr, 1) := by decide +kernel
theorem dX0_above_4 : decode cX0_above 4 = .ok (.lreturn, 1) := by decide +kernel
theorem dX0_below_0 : decode cX0_below 0 = .ok (.lload_n 0, 1) := by decide +kernel
theorem dX0_below_1 : decode cX0_below 1 = .ok (.ldc2_w 11, 3) := by decide +kernel
theorem dX0_below_4 : decode cX0_below 4 = .ok (.land, 1) := by decide +kernel
theorem dX0_below_5 : decode cX0_below 5 = .ok (.lreturn, 1) := by decide +kernel
theorem dX0_canBe_0 : decode cX0_canBe 0 = .ok (.iload_n 0, 1) := by decide +kernel
theorem dX0_canBe_1 : decode cX0_canBe 1 = .ok (.ldc 9, 2) := by decide +kernel
theorem dX0_canBe_3 : decode cX0_canBe 3 = .ok (.if_icmp .lt 24, 3) := by decide +kernel
theorem dX0_canBe_6 : decode cX0_canBe 6 = .ok (.iload_n 0, 1) := by decide +kernel
theorem dX0_canBe_7 : decode cX0_canBe 7 = .ok (.ldc 10, 2) := by decide +kernel
theorem dX0_canBe_9 : decode cX0_canBe 9 = .ok (.if_icmp .gt 18, 3) := by decide +kernel
theorem dX0_canBe_12 : decode cX0_canBe 12 = .ok (.iload_n 1, 1) := by decide +kernel
theorem dX0_canBe_13 : decode cX0_canBe 13 = .ok (.iconst 1, 1) := by decide +kernel
theorem dX0_canBe_14 : decode cX0_canBe 14 = .ok (.if_icmp .lt 13, 3) := by decide +kernel
theorem dX0_canBe_17 : decode cX0_canBe 17 = .ok (.iload_n 1, 1) := by decide +kernel
theorem dX0_canBe_18 : decode cX0_canBe 18 = .ok (.ldc 10, 2) := by decide +kernel
theorem dX0_canBe_20 : decode cX0_canBe 20 = .ok (.if_icmp .gt 7, 3) := by decide +kernel
theorem dX0_canBe_23 : decode cX0_canBe 23 = .ok (.iconst 1, 1) := by decide +kernel
theorem dX0_canBe_24 : decode cX0_canBe 24 = .ok (.goto 4, 3) := by decide +kernel
theorem dX0_canBe_27 : decode cX0_canBe 27 = .ok (.iconst 0, 1) := by decide +kernel
theorem dX0_canBe_28 : decode cX0_canBe 28 = .ok (.ireturn, 1) := by decide +kernel
theorem dX0_greatestShared_0 : decode cX0_greatestShared 0 = .ok (.lload_n 0, 1) := by decide +kernel
theorem dX0_greatestShared_1 : decode cX0_greatestShared 1 = .ok (.lstore 4, 2) := by decide +kernel
theorem dX0_greatestShared_3 : decode cX0_greatestShared 3 = .ok (.lload_n 2, 1) := by decide +kernel
theorem dX0_greatestShared_4 : decode cX0_greatestShared 4 = .ok (.lstore 6, 2) := by decide +kernel
theorem dX0_greatestShared_6 : decode cX0_greatestShared 6 = .ok (.iconst 0, 1) := by decide +kernel
theorem dX0_greatestShared_7 : decode cX0_greatestShared 7 = .ok (.istore 8, 2) := by decide +kernel
theorem dX0_greatestShared_9 : decode cX0_greatestShared 9 = .ok (.iload 8, 2) := by decide +kernel
theorem dX0_greatestShared_11 : decode cX0_greatestShared 11 = .ok (.bipush 100, 2) := by decide +kernel
theorem dX0_greatestShared_13 : decode cX0_greatestShared 13 = .ok (.if_icmp .ge 31, 3) := by decide +kernel
theorem dX0_greatestShared_16 : decode cX0_greatestShared 16 = .ok (.lload 6, 2) := by decide +kernel
theorem dX0_greatestShared_18 : decode cX0_greatestShared 18 = .ok (.lconst 0, 1) := by decide +kernel
theorem dX0_greatestShared_19 : decode cX0_greatestShared 19 = .ok (.lcmp, 1) := by decide +kernel
theorem dX0_greatestShared_20 : decode cX0_greatestShared 20 = .ok (.ifCond .eq 24, 3) := by decide +kernel
theorem dX0_greatestShared_23 : decode cX0_greatestShared 23 = .ok (.lload 4, 2) := by decide +kernel
theorem dX0_greatestShared_25 : decode cX0_greatestShared 25 = .ok (.lload 6, 2) := by decide +kernel
theorem dX0_greatestShared_27 : decode cX0_greatestShared 27 = .ok (.lrem, 1) := by decide +kernel
theorem dX0_greatestShared_28 : decode cX0_greatestShared 28 = .ok (.lstore 9, 2) := by decide +kernel
theorem dX0_greatestShared_30 : decode cX0_greatestShared 30 = .ok (.lload 6, 2) := by decide +kernel
theorem dX0_greatestShared_32 : decode cX0_greatestShared 32 = .ok (.lstore 4, 2) := by decide +kernel
theorem dX0_greatestShared_34 : decode cX0_greatestShared 34 = .ok (.lload 9, 2) := by decide +kernel
theorem dX0_greatestShared_36 : decode cX0_greatestShared 36 = .ok (.lstore 6, 2) := by decide +kernel
theorem dX0_greatestShared_38 : decode cX0_greatestShared 38 = .ok (.iinc 8 1, 3) := by decide +kernel
theorem dX0_greatestShared_41 : decode cX0_greatestShared 41 = .ok (.goto (-32), 3) := by decide +kernel
theorem dX0_greatestShared_44 : decode cX0_greatestShared 44 = .ok (.lload 4, 2) := by decide +kernel
theorem dX0_greatestShared_46 : decode cX0_greatestShared 46 = .ok (.lreturn, 1) := by decide +kernel
theorem dX0_of_0 : decode cX0_of 0 = .ok (.lload_n 2, 1) := by decide +kernel
theorem dX0_of_1 : decode cX0_of 1 = .ok (.lconst 0, 1) := by decide +kernel
theorem dX0_of_2 : decode cX0_of 2 = .ok (.lcmp, 1) := by decide +kernel
theorem dX0_of_3 : decode cX0_of 3 = .ok (.ifCond .ne 5, 3) := by decide +kernel
theorem dX0_of_6 : decode cX0_of 6 = .ok (.lconst 0, 1) := by decide +kernel
theorem dX0_of_7 : decode cX0_of 7 = .ok (.lreturn, 1) := by decide +kernel
theorem dX0_of_8 : decode cX0_of 8 = .ok (.lload_n 2, 1) := by decide +kernel
theorem dX0_of_9 : decode cX0_of 9 = .ok (.lconst 0, 1) := by decide +kernel
theorem dX0_of_10 : decode cX0_of 10 = .ok (.lcmp, 1) := by decide +kernel
theorem dX0_of_11 : decode cX0_of 11 = .ok (.ifCond .ge 8, 3) := by decide +kernel
theorem dX0_of_14 : decode cX0_of 14 = .ok (.lload_n 0, 1) := by decide +kernel
theorem dX0_of_15 : decode cX0_of 15 = .ok (.lneg, 1) := by decide +kernel
theorem dX0_of_16 : decode cX0_of 16 = .ok (.goto 4, 3) := by decide +kernel
theorem dX0_of_19 : decode cX0_of 19 = .ok (.lload_n 0, 1) := by decide +kernel
theorem dX0_of_20 : decode cX0_of 20 = .ok (.lstore 4, 2) := by decide +kernel
theorem dX0_of_22 : decode cX0_of 22 = .ok (.lload_n 2, 1) := by decide +kernel
theorem dX0_of_23 : decode cX0_of 23 = .ok (.invokestatic 13, 3) := by decide +kernel
theorem dX0_of_26 : decode cX0_of 26 = .ok (.lstore 6, 2) := by decide +kernel
theorem dX0_of_28 : decode cX0_of 28 = .ok (.lload 4, 2) := by decide +kernel
theorem dX0_of_30 : decode cX0_of 30 = .ok (.invokestatic 13, 3) := by decide +kernel
theorem dX0_of_33 : decode cX0_of 33 = .ok (.lload 6, 2) := by decide +kernel
theorem dX0_of_35 : decode cX0_of 35 = .ok (.invokestatic 19, 3) := by decide +kernel
theorem dX0_of_38 : decode cX0_of 38 = .ok (.lstore 8, 2) := by decide +kernel
theorem dX0_of_40 : decode cX0_of 40 = .ok (.lload 8, 2) := by decide +kernel
theorem dX0_of_42 : decode cX0_of 42 = .ok (.lconst 1, 1) := by decide +kernel
theorem dX0_of_43 : decode cX0_of 43 = .ok (.lcmp, 1) := by decide +kernel
theorem dX0_of_44 : decode cX0_of 44 = .ok (.ifCond .le 17, 3) := by decide +kernel
theorem dX0_of_47 : decode cX0_of 47 = .ok (.lload 4, 2) := by decide +kernel
theorem dX0_of_49 : decode cX0_of 49 = .ok (.lload 8, 2) := by decide +kernel
theorem dX0_of_51 : decode cX0_of 51 = .ok (.ldiv, 1) := by decide +kernel
theorem dX0_of_52 : decode cX0_of 52 = .ok (.lstore 4, 2) := by decide +kernel
theorem dX0_of_54 : decode cX0_of 54 = .ok (.lload 6, 2) := by decide +kernel
theorem dX0_of_56 : decode cX0_of 56 = .ok (.lload 8, 2) := by decide +kernel
theorem dX0_of_58 : decode cX0_of 58 = .ok (.ldiv, 1) := by decide +kernel
theorem dX0_of_59 : decode cX0_of 59 = .ok (.lstore 6, 2) := by decide +kernel
theorem dX0_of_61 : decode cX0_of 61 = .ok (.lload 4, 2) := by decide +kernel
theorem dX0_of_63 : decode cX0_of 63 = .ok (.ldc2_w 23, 3) := by decide +kernel
theorem dX0_of_66 : decode cX0_of 66 = .ok (.lcmp, 1) := by decide +kernel
theorem dX0_of_67 : decode cX0_of 67 = .ok (.ifCond .lt 21, 3) := by decide +kernel
theorem dX0_of_70 : decode cX0_of 70 = .ok (.lload 4, 2) := by decide +kernel
theorem dX0_of_72 : decode cX0_of 72 = .ok (.ldc2_w 25, 3) := by decide +kernel
theorem dX0_of_75 : decode cX0_of 75 = .ok (.lcmp, 1) := by decide +kernel
theorem dX0_of_76 : decode cX0_of 76 = .ok (.ifCond .gt 12, 3) := by decide +kernel
theorem dX0_of_79 : decode cX0_of 79 = .ok (.lload 6, 2) := by decide +kernel
theorem dX0_of_81 : decode cX0_of 81 = .ok (.ldc2_w 25, 3) := by decide +kernel
theorem dX0_of_84 : decode cX0_of 84 = .ok (.lcmp, 1) := by decide +kernel
theorem dX0_of_85 : decode cX0_of 85 = .ok (.ifCond .le 5, 3) := by decide +kernel
theorem dX0_of_88 : decode cX0_of 88 = .ok (.lconst 0, 1) := by decide +kernel
theorem dX0_of_89 : decode cX0_of 89 = .ok (.lreturn, 1) := by decide +kernel
theorem dX0_of_90 : decode cX0_of 90 = .ok (.lload 4, 2) := by decide +kernel
theorem dX0_of_92 : decode cX0_of 92 = .ok (.bipush 30, 2) := by decide +kernel
theorem dX0_of_94 : decode cX0_of 94 = .ok (.lshl, 1) := by decide +kernel
theorem dX0_of_95 : decode cX0_of 95 = .ok (.lload 6, 2) := by decide +kernel
theorem dX0_of_97 : decode cX0_of 97 = .ok (.lor, 1) := by decide +kernel
theorem dX0_of_98 : decode cX0_of 98 = .ok (.lreturn, 1) := by decide +kernel
theorem dX0_plus_0 : decode cX0_plus 0 = .ok (.lload_n 0, 1) := by decide +kernel
theorem dX0_plus_1 : decode cX0_plus 1 = .ok (.invokestatic 27, 3) := by decide +kernel
theorem dX0_plus_4 : decode cX0_plus 4 = .ok (.lload_n 2, 1) := by decide +kernel
theorem dX0_plus_5 : decode cX0_plus 5 = .ok (.invokestatic 30, 3) := by decide +kernel
theorem dX0_plus_8 : decode cX0_plus 8 = .ok (.lmul, 1) := by decide +kernel
theorem dX0_plus_9 : decode cX0_plus 9 = .ok (.lload_n 2, 1) := by decide +kernel
theorem dX0_plus_10 : decode cX0_plus 10 = .ok (.invokestatic 27, 3) := by decide +kernel
theorem dX0_plus_13 : decode cX0_plus 13 = .ok (.lload_n 0, 1) := by decide +kernel
theorem dX0_plus_14 : decode cX0_plus 14 = .ok (.invokestatic 30, 3) := by decide +kernel
theorem dX0_plus_17 : decode cX0_plus 17 = .ok (.lmul, 1) := by decide +kernel
theorem dX0_plus_18 : decode cX0_plus 18 = .ok (.ladd, 1) := by decide +kernel
theorem dX0_plus_19 : decode cX0_plus 19 = .ok (.lload_n 0, 1) := by decide +kernel
theorem dX0_plus_20 : decode cX0_plus 20 = .ok (.invokestatic 30, 3) := by decide +kernel
theorem dX0_plus_23 : decode cX0_plus 23 = .ok (.lload_n 2, 1) := by decide +kernel
theorem dX0_plus_24 : decode cX0_plus 24 = .ok (.invokestatic 30, 3) := by decide +kernel
theorem dX0_plus_27 : decode cX0_plus 27 = .ok (.lmul, 1) := by decide +kernel
theorem dX0_plus_28 : decode cX0_plus 28 = .ok (.invokestatic 33, 3) := by decide +kernel
theorem dX0_plus_31 : decode cX0_plus 31 = .ok (.lreturn, 1) := by decide +kernel
theorem dX0_minus_0 : decode cX0_minus 0 = .ok (.lload_n 0, 1) := by decide +kernel
theorem dX0_minus_1 : decode cX0_minus 1 = .ok (.invokestatic 27, 3) := by decide +kernel
theorem dX0_minus_4 : decode cX0_minus 4 = .ok (.lload_n 2, 1) := by decide +kernel
theorem dX0_minus_5 : decode cX0_minus 5 = .ok (.invokestatic 30, 3) := by decide +kernel
theorem dX0_minus_8 : decode cX0_minus 8 = .ok (.lmul, 1) := by decide +kernel
theorem dX0_minus_9 : decode cX0_minus 9 = .ok (.lload_n 2, 1) := by decide +kernel
theorem dX0_minus_10 : decode cX0_minus 10 = .ok (.invokestatic 27, 3) := by decide +kernel
theorem dX0_minus_13 : decode cX0_minus 13 = .ok (.lload_n 0, 1) := by decide +kernel
theorem dX0_minus_14 : decode cX0_minus 14 = .ok (.invokestatic 30, 3) := by decide +kernel
theorem dX0_minus_17 : decode cX0_minus 17 = .ok (.lmul, 1) := by decide +kernel
theorem dX0_minus_18 : decode cX0_minus 18 = .ok (.lsub, 1) := by decide +kernel
theorem dX0_minus_19 : decode cX0_minus 19 = .ok (.lload_n 0, 1) := by decide +kernel
theorem dX0_minus_20 : decode cX0_minus 20 = .ok (.invokestatic 30, 3) := by decide +kernel
theorem dX0_minus_23 : decode cX0_minus 23 = .ok (.lload_n 2, 1) := by decide +kernel
theorem dX0_minus_24 : decode cX0_minus 24 = .ok (.invokestatic 30, 3) := by decide +kernel
theorem dX0_minus_27 : decode cX0_minus 27 = .ok (.lmul, 1) := by decide +kernel
theorem dX0_minus_28 : decode cX0_minus 28 = .ok (.invokestatic 33, 3) := by decide +kernel
theorem dX0_minus_31 : decode cX0_minus 31 = .ok (.lreturn, 1) := by decide +kernel
theorem dX0_times_0 : decode cX0_times 0 = .ok (.lload_n 0, 1) := by decide +kernel
theorem dX0_times_1 : decode cX0_times 1 = .ok (.invokestatic 27, 3) := by decide +kernel
theorem dX0_times_4 : decode cX0_times 4 = .ok (.lload_n 2, 1) := by decide +kernel
theorem dX0_times_5 : decode cX0_times 5 = .ok (.invokestatic 27, 3) := by decide +kernel
theorem dX0_times_8 : decode cX0_times 8 = .ok (.lmul, 1) := by decide +kernel
theorem dX0_times_9 : decode cX0_times 9 = .ok (.lload_n 0, 1) := by decide +kernel
theorem dX0_times_10 : decode cX0_times 10 = .ok (.invokestatic 30, 3) := by decide +kernel
theorem dX0_times_13 : decode cX0_times 13 = .ok (.lload_n 2, 1) := by decide +kernel
theorem dX0_times_14 : decode cX0_times 14 = .ok (.invokestatic 30, 3) := by decide +kernel
theorem dX0_times_17 : decode cX0_times 17 = .ok (.lmul, 1) := by decide +kernel
theorem dX0_times_18 : decode cX0_times 18 = .ok (.invokestatic 33, 3) := by decide +kernel
theorem dX0_times_21 : decode cX0_times 21 = .ok (.lreturn, 1) := by decide +kernel
theorem dX0_over_0 : decode cX0_over 0 = .ok (.lload_n 0, 1) := by decide +kernel
theorem dX0_over_1 : decode cX0_over 1 = .ok (.invokestatic 27, 3) := by decide +kernel
theorem dX0_over_4 : decode cX0_over 4 = .ok (.lload_n 2, 1) := by decide +kernel
theorem dX0_over_5 : decode cX0_over 5 = .ok (.invokestatic 30, 3) := by decide +kernel
theorem dX0_over_8 : decode cX0_over 8 = .ok (.lmul, 1) := by decide +kernel
theorem dX0_over_9 : decode cX0_over 9 = .ok (.lload_n 0, 1) := by decide +kernel
theorem dX0_over_10 : decode cX0_over 10 = .ok (.invokestatic 30, 3) := by decide +kernel
theorem dX0_over_13 : decode cX0_over 13 = .ok (.lload_n 2, 1) := by decide +kernel
theorem dX0_over_14 : decode cX0_over 14 = .ok (.invokestatic 27, 3) := by decide +kernel
theorem dX0_over_17 : decode cX0_over 17 = .ok (.lmul, 1) := by decide +kernel
theorem dX0_over_18 : decode cX0_over 18 = .ok (.invokestatic 33, 3) := by decide +kernel
theorem dX0_over_21 : decode cX0_over 21 = .ok (.lreturn, 1) := by decide +kernel
theorem dX0_turned_0 : decode cX0_turned 0 = .ok (.lload_n 0, 1) := by decide +kernel
theorem dX0_turned_1 : decode cX0_turned 1 = .ok (.invokestatic 27, 3) := by decide +kernel
theorem dX0_turned_4 : decode cX0_turned 4 = .ok (.lneg, 1) := by decide +kernel
theorem dX0_turned_5 : decode cX0_turned 5 = .ok (.bipush 30, 2) := by decide +kernel
theorem dX0_turned_7 : decode cX0_turned 7 = .ok (.lshl, 1) := by decide +kernel
theorem dX0_turned_8 : decode cX0_turned 8 = .ok (.lload_n 0, 1) := by decide +kernel
theorem dX0_turned_9 : decode cX0_turned 9 = .ok (.invokestatic 30, 3) := by decide +kernel
theorem dX0_turned_12 : decode cX0_turned 12 = .ok (.lor, 1) := by decide +kernel
theorem dX0_turned_13 : decode cX0_turned 13 = .ok (.lreturn, 1) := by decide +kernel
theorem dX0_withoutSign_0 : decode cX0_withoutSign 0 = .ok (.lload_n 0, 1) := by decide +kernel
theorem dX0_withoutSign_1 : decode cX0_withoutSign 1 = .ok (.invokestatic 27, 3) := by decide +kernel
theorem dX0_withoutSign_4 : decode cX0_withoutSign 4 = .ok (.lconst 0, 1) := by decide +kernel
theorem dX0_withoutSign_5 : decode cX0_withoutSign 5 = .ok (.lcmp, 1) := by decide +kernel
theorem dX0_withoutSign_6 : decode cX0_withoutSign 6 = .ok (.ifCond .ge 10, 3) := by decide +kernel
theorem dX0_withoutSign_9 : decode cX0_withoutSign 9 = .ok (.lload_n 0, 1) := by decide +kernel
theorem dX0_withoutSign_10 : decode cX0_withoutSign 10 = .ok (.invokestatic 36, 3) := by decide +kernel
theorem dX0_withoutSign_13 : decode cX0_withoutSign 13 = .ok (.goto 4, 3) := by decide +kernel
theorem dX0_withoutSign_16 : decode cX0_withoutSign 16 = .ok (.lload_n 0, 1) := by decide +kernel
theorem dX0_withoutSign_17 : decode cX0_withoutSign 17 = .ok (.lreturn, 1) := by decide +kernel
theorem dX0_compare_0 : decode cX0_compare 0 = .ok (.lload_n 0, 1) := by decide +kernel
theorem dX0_compare_1 : decode cX0_compare 1 = .ok (.invokestatic 27, 3) := by decide +kernel
theorem dX0_compare_4 : decode cX0_compare 4 = .ok (.lload_n 2, 1) := by decide +kernel
theorem dX0_compare_5 : decode cX0_compare 5 = .ok (.invokestatic 30, 3) := by decide +kernel
theorem dX0_compare_8 : decode cX0_compare 8 = .ok (.lmul, 1) := by decide +kernel
theorem dX0_compare_9 : decode cX0_compare 9 = .ok (.lload_n 2, 1) := by decide +kernel
theorem dX0_compare_10 : decode cX0_compare 10 = .ok (.invokestatic 27, 3) := by decide +kernel
theorem dX0_compare_13 : decode cX0_compare 13 = .ok (.lload_n 0, 1) := by decide +kernel
theorem dX0_compare_14 : decode cX0_compare 14 = .ok (.invokestatic 30, 3) := by decide +kernel
theorem dX0_compare_17 : decode cX0_compare 17 = .ok (.lmul, 1) := by decide +kernel
theorem dX0_compare_18 : decode cX0_compare 18 = .ok (.invokestatic 39, 3) := by decide +kernel
theorem dX0_compare_21 : decode cX0_compare 21 = .ok (.ireturn, 1) := by decide +kernel
def v_k_lcmp : List Cond := .code yJ13_compare_74951 cJ13_compare_74951 4 (some .int) :: []
set_option maxHeartbeats 4000000 in
set_option maxRecDepth 100000 in
theorem k_lcmp (l : Launch) (D : va_G) (y : Nat → ClassId) (sz : Nat) (a b : Int64) : Met l yJ13_compare_74951 v_k_lcmp ({ frames := 0, cells := 0, slots := 0, locals := 0 } : Room) (va_Pc [.long a, .long b] (xPre D (xT y) [] sz)) (va_Qi (fun (r : Int32) (_ : Unit) => True) (fun (u : Unit) => xB D (xT y) (va_A [] sz) []) (va_A [] sz)) 0 0 (va_A [] sz) := by
  refine x_meti (cc := cJ13_compare_74951) (maxL := 4) (by decide) rfl (Nat.le_of_ble_eq_true rfl) ?_
  intro p e s m below meth c A H locs Q hx hb hml hown hts hr hlocks hmn hA hP hK hD hS ls hl hQ
  have hl : lv_has ls 4 [(0, .long a), (2, .long b)] := hl
  have kk_1 : (1 : Int32).toInt = 1 := rfl
  have kk_0 : (0 : Int32).toInt = 0 := rfl
  have kk_m1 : ((-1) : Int32).toInt = -1 := rfl
  refine lv_lload_n hx hb dJ13_compare_74951_0 rfl (lv_at hl 0 rfl) ?_
  refine lv_lload_n hx hb dJ13_compare_74951_1 rfl (lv_at hl 1 rfl) ?_
  refine W.lcmp hx hb dJ13_compare_74951_2 ?_
  refine lv_if_ge (tgt := 10) hx hb dJ13_compare_74951_3 (by decide) (fun c_1 => ?_) (fun c_1 => ?_)
  · have kc_1 : a.toInt ≥ b.toInt := by have h9 := x_tri a b; (try simp only [Int64.reduceToInt] at h9); rcases h9 with ⟨g1, g2⟩ | ⟨g1, g2⟩ | ⟨g1, g2⟩ <;> first | omega | (exfalso; rw [g1] at c_1; revert c_1; decide)
    refine lv_lload_n hx hb dJ13_compare_74951_10 rfl (lv_at hl 0 rfl) ?_
    refine lv_lload_n hx hb dJ13_compare_74951_11 rfl (lv_at hl 1 rfl) ?_
    refine W.lcmp hx hb dJ13_compare_74951_12 ?_
    refine lv_if_ne (tgt := 20) hx hb dJ13_compare_74951_13 (by decide) (fun c_2 => ?_) (fun c_2 => ?_)
    · have kc_2 : a.toInt ≠ b.toInt := by have h9 := x_tri a b; (try simp only [Int64.reduceToInt] at h9); rcases h9 with ⟨g1, g2⟩ | ⟨g1, g2⟩ | ⟨g1, g2⟩ <;> first | omega | (exfalso; rw [g1] at c_2; revert c_2; decide)
      refine lv_iconst (v := 1) hx hb dJ13_compare_74951_20 (by decide) ?_
      exact x_iretW (v := 1) (u := ()) hx hb hr hQ trivial (x_nilP D H) (x_nilD A) hK hS dJ13_compare_74951_21 hlocks
    · have kc_2 : a.toInt = b.toInt := by have h9 := x_tri a b; (try simp only [Int64.reduceToInt] at h9); rcases h9 with ⟨g1, g2⟩ | ⟨g1, g2⟩ | ⟨g1, g2⟩ <;> first | omega | (exfalso; rw [g1] at c_2; revert c_2; decide)
      refine lv_iconst (v := 0) hx hb dJ13_compare_74951_16 (by decide) ?_
      refine lv_goto (tgt := 21) hx hb dJ13_compare_74951_17 (by decide) ?_
      exact x_iretW (v := 0) (u := ()) hx hb hr hQ trivial (x_nilP D H) (x_nilD A) hK hS dJ13_compare_74951_21 hlocks
  · have kc_1 : a.toInt < b.toInt := by have h9 := x_tri a b; (try simp only [Int64.reduceToInt] at h9); rcases h9 with ⟨g1, g2⟩ | ⟨g1, g2⟩ | ⟨g1, g2⟩ <;> first | omega | (exfalso; rw [g1] at c_1; revert c_1; decide)
    refine lv_iconst (v := (-1)) hx hb dJ13_compare_74951_6 (by decide) ?_
    refine lv_goto (tgt := 21) hx hb dJ13_compare_74951_7 (by decide) ?_
    exact x_iretW (v := (-1)) (u := ()) hx hb hr hQ trivial (x_nilP D H) (x_nilD A) hK hS dJ13_compare_74951_21 hlocks

def v_k_above : List Cond := .code yX0_above cX0_above 2 (some .long) :: []
set_option maxHeartbeats 4000000 in
set_option maxRecDepth 100000 in
theorem k_above (l : Launch) (D : va_G) (y : Nat → ClassId) (sz : Nat) (x : Int64) : Met l yX0_above v_k_above ({ frames := 0, cells := 0, slots := 0, locals := 0 } : Room) (va_Pc [.long x] (xPre D (xT y) [] sz)) (va_Ql (fun (r : Int64) (_ : Unit) => True) (fun (u : Unit) => xB D (xT y) (va_A [] sz) []) (va_A [] sz)) 0 0 (va_A [] sz) := by
  refine x_metl (cc := cX0_above) (maxL := 2) (by decide) rfl (Nat.le_of_ble_eq_true rfl) ?_
  intro p e s m below meth c A H locs Q hx hb hml hown hts hr hlocks hmn hA hP hK hD hS ls hl hQ
  have hl : lv_has ls 2 [(0, .long x)] := hl
  refine lv_lload_n hx hb dX0_above_0 rfl (lv_at hl 0 rfl) ?_
  refine lv_bipush (v := 30) hx hb dX0_above_1 (by decide) ?_
  refine lv_lshr hx hb dX0_above_3 rfl ?_
  refine lv_topl (fun j_1 ej_1 => ?_)
  exact x_lretW (v := j_1) (u := ()) hx hb hr hQ trivial (x_nilP D H) (x_nilD A) hK hS dX0_above_4 hlocks

def v_k_below : List Cond := .code yX0_below cX0_below 2 (some .long) :: [.constantLong RX0 11 1073741823]
set_option maxHeartbeats 4000000 in
set_option maxRecDepth 100000 in
theorem k_below (l : Launch) (D : va_G) (y : Nat → ClassId) (sz : Nat) (x : Int64) : Met l yX0_below v_k_below ({ frames := 0, cells := 0, slots := 0, locals := 0 } : Room) (va_Pc [.long x] (xPre D (xT y) [] sz)) (va_Ql (fun (r : Int64) (_ : Unit) => True) (fun (u : Unit) => xB D (xT y) (va_A [] sz) []) (va_A [] sz)) 0 0 (va_A [] sz) := by
  refine x_metl (cc := cX0_below) (maxL := 2) (by decide) rfl (Nat.le_of_ble_eq_true rfl) ?_
  intro p e s m below meth c A H locs Q hx hb hml hown hts hr hlocks hmn hA hP hK hD hS ls hl hQ
  have hl : lv_has ls 2 [(0, .long x)] := hl
  refine lv_lload_n hx hb dX0_below_0 rfl (lv_at hl 0 rfl) ?_
  refine lv_ldc2 (v := 1073741823) hx hb hown (hts (.constantLong RX0 11 1073741823) (List.mem_of_getElem? (i := 1) rfl)) dX0_below_1 ?_
  refine lv_land hx hb dX0_below_4 ?_
  refine lv_topl (fun j_1 ej_1 => ?_)
  exact x_lretW (v := j_1) (u := ()) hx hb hr hQ trivial (x_nilP D H) (x_nilD A) hK hS dX0_below_5 hlocks

def v_k_canBe : List Cond := .code yX0_canBe cX0_canBe 2 (some .boolean) :: [.constant RX0 9 (-1000000000), .constant RX0 10 1000000000]
set_option maxHeartbeats 4000000 in
set_option maxRecDepth 100000 in
theorem k_canBe (l : Launch) (D : va_G) (y : Nat → ClassId) (sz : Nat) (a b : Int32) : Met l yX0_canBe v_k_canBe ({ frames := 0, cells := 0, slots := 0, locals := 0 } : Room) (va_Pc [.int a, .int b] (xPre D (xT y) [] sz)) (va_Qi (fun (r : Int32) (_ : Unit) => r.toInt = 0 ∨ r.toInt = 1) (fun (u : Unit) => xB D (xT y) (va_A [] sz) []) (va_A [] sz)) 0 0 (va_A [] sz) := by
  refine x_meti (cc := cX0_canBe) (maxL := 2) (by decide) rfl (Nat.le_of_ble_eq_true rfl) ?_
  intro p e s m below meth c A H locs Q hx hb hml hown hts hr hlocks hmn hA hP hK hD hS ls hl hQ
  have hl : lv_has ls 2 [(0, .int a), (1, .int b)] := hl
  have kk_m1000000000 : ((-1000000000) : Int32).toInt = -1000000000 := rfl
  have kk_0 : (0 : Int32).toInt = 0 := rfl
  have kk_1000000000 : (1000000000 : Int32).toInt = 1000000000 := rfl
  have kk_1 : (1 : Int32).toInt = 1 := rfl
  refine lv_iload_n hx hb dX0_canBe_0 rfl (lv_at hl 0 rfl) ?_
  refine lv_ldc (v := (-1000000000)) hx hb hown (hts (.constant RX0 9 (-1000000000)) (List.mem_of_getElem? (i := 1) rfl)) dX0_canBe_1 ?_
  refine lv_icmp_lt (tgt := 27) hx hb dX0_canBe_3 (by decide) (fun c_1 => ?_) (fun c_1 => ?_)
  · have kc_1 : a.toInt < (-1000000000) := by have h9 := c_1; simp only [ge_iff_le, gt_iff_lt, x_lt, x_le, x_eq, ne_eq, Int32.not_lt, Int32.not_le] at h9; simp only [Int32.reduceToInt] at h9; omega
    refine lv_iconst (v := 0) hx hb dX0_canBe_27 (by decide) ?_
    exact x_zretW (v := 0) (u := ()) hx hb hr hQ rfl (by omega) (x_nilP D H) (x_nilD A) hK hS dX0_canBe_28 hlocks
  · have kc_1 : a.toInt ≥ (-1000000000) := by have h9 := c_1; simp only [ge_iff_le, gt_iff_lt, x_lt, x_le, x_eq, ne_eq, Int32.not_lt, Int32.not_le] at h9; simp only [Int32.reduceToInt] at h9; omega
    refine lv_iload_n hx hb dX0_canBe_6 rfl (lv_at hl 0 rfl) ?_
    refine lv_ldc (v := 1000000000) hx hb hown (hts (.constant RX0 10 1000000000) (List.mem_of_getElem? (i := 2) rfl)) dX0_canBe_7 ?_
    refine lv_icmp_gt (tgt := 27) hx hb dX0_canBe_9 (by decide) (fun c_2 => ?_) (fun c_2 => ?_)
    · have kc_2 : a.toInt > 1000000000 := by have h9 := c_2; simp only [ge_iff_le, gt_iff_lt, x_lt, x_le, x_eq, ne_eq, Int32.not_lt, Int32.not_le] at h9; simp only [Int32.reduceToInt] at h9; omega
      refine lv_iconst (v := 0) hx hb dX0_canBe_27 (by decide) ?_
      exact x_zretW (v := 0) (u := ()) hx hb hr hQ rfl (by omega) (x_nilP D H) (x_nilD A) hK hS dX0_canBe_28 hlocks
    · have kc_2 : a.toInt ≤ 1000000000 := by have h9 := c_2; simp only [ge_iff_le, gt_iff_lt, x_lt, x_le, x_eq, ne_eq, Int32.not_lt, Int32.not_le] at h9; simp only [Int32.reduceToInt] at h9; omega
      refine lv_iload_n hx hb dX0_canBe_12 rfl (lv_at hl 1 rfl) ?_
      refine lv_iconst (v := 1) hx hb dX0_canBe_13 (by decide) ?_
      refine lv_icmp_lt (tgt := 27) hx hb dX0_canBe_14 (by decide) (fun c_3 => ?_) (fun c_3 => ?_)
      · have kc_3 : b.toInt < 1 := by have h9 := c_3; simp only [ge_iff_le, gt_iff_lt, x_lt, x_le, x_eq, ne_eq, Int32.not_lt, Int32.not_le] at h9; simp only [Int32.reduceToInt] at h9; omega
        refine lv_iconst (v := 0) hx hb dX0_canBe_27 (by decide) ?_
        exact x_zretW (v := 0) (u := ()) hx hb hr hQ rfl (by omega) (x_nilP D H) (x_nilD A) hK hS dX0_canBe_28 hlocks
      · have kc_3 : b.toInt ≥ 1 := by have h9 := c_3; simp only [ge_iff_le, gt_iff_lt, x_lt, x_le, x_eq, ne_eq, Int32.not_lt, Int32.not_le] at h9; simp only [Int32.reduceToInt] at h9; omega
        refine lv_iload_n hx hb dX0_canBe_17 rfl (lv_at hl 1 rfl) ?_
        refine lv_ldc (v := 1000000000) hx hb hown (hts (.constant RX0 10 1000000000) (List.mem_of_getElem? (i := 2) rfl)) dX0_canBe_18 ?_
        refine lv_icmp_gt (tgt := 27) hx hb dX0_canBe_20 (by decide) (fun c_4 => ?_) (fun c_4 => ?_)
        · have kc_4 : b.toInt > 1000000000 := by have h9 := c_4; simp only [ge_iff_le, gt_iff_lt, x_lt, x_le, x_eq, ne_eq, Int32.not_lt, Int32.not_le] at h9; simp only [Int32.reduceToInt] at h9; omega
          refine lv_iconst (v := 0) hx hb dX0_canBe_27 (by decide) ?_
          exact x_zretW (v := 0) (u := ()) hx hb hr hQ rfl (by omega) (x_nilP D H) (x_nilD A) hK hS dX0_canBe_28 hlocks
        · have kc_4 : b.toInt ≤ 1000000000 := by have h9 := c_4; simp only [ge_iff_le, gt_iff_lt, x_lt, x_le, x_eq, ne_eq, Int32.not_lt, Int32.not_le] at h9; simp only [Int32.reduceToInt] at h9; omega
          refine lv_iconst (v := 1) hx hb dX0_canBe_23 (by decide) ?_
          refine lv_goto (tgt := 28) hx hb dX0_canBe_24 (by decide) ?_
          exact x_zretW (v := 1) (u := ()) hx hb hr hQ rfl (by omega) (x_nilP D H) (x_nilD A) hK hS dX0_canBe_28 hlocks

def v_k_shared : List Cond := .code yX0_greatestShared cX0_greatestShared 11 (some .long) :: []
set_option maxHeartbeats 4000000 in
set_option maxRecDepth 100000 in
theorem k_shared (l : Launch) (D : va_G) (y : Nat → ClassId) (sz : Nat) (x z : Int64) : Met l yX0_greatestShared v_k_shared ({ frames := 0, cells := 0, slots := 0, locals := 0 } : Room) (va_Pc [.long x, .long z] (xPre D (xT y) [] sz)) (va_Ql (fun (r : Int64) (_ : Unit) => True) (fun (u : Unit) => xB D (xT y) (va_A [] sz) []) (va_A [] sz)) 0 0 (va_A [] sz) := by
  refine x_metl (cc := cX0_greatestShared) (maxL := 11) (by decide) rfl (Nat.le_of_ble_eq_true rfl) ?_
  intro p e s m below meth c A H locs Q hx hb hml hown hts hr hlocks hmn hA hP hK hD hS ls hl hQ
  have hl : lv_has ls 11 [(0, .long x), (2, .long z)] := hl
  have kk_100 : (100 : Int32).toInt = 100 := rfl
  have kk_1 : (1 : Int32).toInt = 1 := rfl
  refine lv_lload_n hx hb dX0_greatestShared_0 rfl (lv_at hl 0 rfl) ?_
  refine lv_lstore (lv' := [(4, .long x), (0, .long x), (2, .long z)]) hx hb dX0_greatestShared_1 hl (by decide) rfl (fun ls hl => ?_)
  refine lv_lload_n hx hb dX0_greatestShared_3 rfl (lv_at hl 2 rfl) ?_
  refine lv_lstore (lv' := [(6, .long z), (4, .long x), (0, .long x), (2, .long z)]) hx hb dX0_greatestShared_4 hl (by decide) rfl (fun ls hl => ?_)
  refine lv_iconst (v := 0) hx hb dX0_greatestShared_6 (by decide) ?_
  refine lv_istore (lv' := [(8, .int 0), (6, .long z), (4, .long x), (0, .long x), (2, .long z)]) hx hb dX0_greatestShared_7 hl (by decide) rfl (fun ls hl => ?_)
  have loop : ∀ (fu : Nat) (i : Int32) (b : Int64) (s_ : Int64) (H : Heap) (locs : List Loc) (ls : Array Slot), (0 ≤ i.toInt) → (i.toInt ≤ 100) → (100 - i.toInt < (fu : Int)) → va_P D vwCl [] H → va_D A [] → va_S A s.heap H locs → lv_has ls 11 [(8, .int i), (6, .long s_), (4, .long b)] → W p l e ({ frames := 0, cells := 0, slots := 0, locals := 0 } : Room) s m ([.long x, .long z] : List Value).toArray below meth c H locs 0 0 Q (F0 m 9 ls []) := by
    intro fu
    induction fu with
    | zero =>
      intro i b s_ H locs ls hi0 hi1 hm
      exact absurd hm (by omega)
    | succ fu ih_loop =>
      intro i b s_ H locs ls hi0 hi1 hm hP hD hS hl
      refine lv_iload hx hb dX0_greatestShared_9 (lv_at hl 0 rfl) ?_
      refine lv_bipush (v := 100) hx hb dX0_greatestShared_11 (by decide) ?_
      refine lv_icmp_ge (tgt := 44) hx hb dX0_greatestShared_13 (by decide) (fun c_1 => ?_) (fun c_1 => ?_)
      · have kc_1 : i.toInt ≥ 100 := by have h9 := c_1; simp only [ge_iff_le, gt_iff_lt, x_lt, x_le, x_eq, ne_eq, Int32.not_lt, Int32.not_le] at h9; simp only [Int32.reduceToInt] at h9; omega
        refine lv_lload hx hb dX0_greatestShared_44 (lv_at hl 2 rfl) ?_
        exact x_lretW (v := b) (u := ()) hx hb hr hQ trivial (x_nilP D H) (x_nilD A) hK hS dX0_greatestShared_46 hlocks
      · have kc_1 : i.toInt < 100 := by have h9 := c_1; simp only [ge_iff_le, gt_iff_lt, x_lt, x_le, x_eq, ne_eq, Int32.not_lt, Int32.not_le] at h9; simp only [Int32.reduceToInt] at h9; omega
        refine lv_lload hx hb dX0_greatestShared_16 (lv_at hl 1 rfl) ?_
        refine lv_lconst (v := 0) hx hb dX0_greatestShared_18 (by decide) ?_
        refine W.lcmp hx hb dX0_greatestShared_19 ?_
        refine lv_if_eq (tgt := 44) hx hb dX0_greatestShared_20 (by decide) (fun c_2 => ?_) (fun c_2 => ?_)
        · have kc_2 : s_.toInt = 0 := by have h9 := x_tri s_ (0 : Int64); (try simp only [Int64.reduceToInt] at h9); rcases h9 with ⟨g1, g2⟩ | ⟨g1, g2⟩ | ⟨g1, g2⟩ <;> first | omega | (exfalso; rw [g1] at c_2; revert c_2; decide)
          refine lv_lload hx hb dX0_greatestShared_44 (lv_at hl 2 rfl) ?_
          exact x_lretW (v := b) (u := ()) hx hb hr hQ trivial (x_nilP D H) (x_nilD A) hK hS dX0_greatestShared_46 hlocks
        · have kc_2 : s_.toInt ≠ 0 := by have h9 := x_tri s_ (0 : Int64); (try simp only [Int64.reduceToInt] at h9); rcases h9 with ⟨g1, g2⟩ | ⟨g1, g2⟩ | ⟨g1, g2⟩ <;> first | omega | (exfalso; rw [g1] at c_2; revert c_2; decide)
          refine lv_lload hx hb dX0_greatestShared_23 (lv_at hl 2 rfl) ?_
          refine lv_lload hx hb dX0_greatestShared_25 (lv_at hl 1 rfl) ?_
          refine lv_lrem hx hb dX0_greatestShared_27 (fun h9 => absurd (show s_.toInt = 0 by rw [h9]; rfl) (by omega)) ?_
          refine lv_topl (fun j_3 ej_3 => ?_)
          refine lv_lstore (lv' := [(9, .long j_3), (8, .int i), (6, .long s_), (4, .long b)]) hx hb dX0_greatestShared_28 hl (by decide) rfl (fun ls hl => ?_)
          refine lv_lload hx hb dX0_greatestShared_30 (lv_at hl 2 rfl) ?_
          refine lv_lstore (lv' := [(4, .long s_), (9, .long j_3), (8, .int i), (6, .long s_)]) hx hb dX0_greatestShared_32 hl (by decide) rfl (fun ls hl => ?_)
          refine lv_lload hx hb dX0_greatestShared_34 (lv_at hl 1 rfl) ?_
          refine lv_lstore (lv' := [(6, .long j_3), (4, .long s_), (9, .long j_3), (8, .int i)]) hx hb dX0_greatestShared_36 hl (by decide) rfl (fun ls hl => ?_)
          obtain ⟨i_4, ei_4⟩ : ∃ z9 : Int32, z9 = i + 1 := ⟨_, rfl⟩
          have vi_4 : i_4.toInt = i.toInt + 1 := by have h9 := x_add ei_4 (by omega) (by omega); omega
          refine lv_iinc (v := i_4) (lv' := [(8, .int i_4), (6, .long j_3), (4, .long s_), (9, .long j_3)]) hx hb dX0_greatestShared_38 hl (k := 3) rfl (by rw [ei_4]; rfl) (by decide) rfl (fun ls hl => ?_)
          refine lv_goto (tgt := 9) hx hb dX0_greatestShared_41 (by decide) ?_
          exact ih_loop i_4 s_ j_3 H locs ls (by omega) (by omega) (by omega) hP hD hS (lv_sub hl [0, 1, 2] rfl)
  exact loop 101 0 x z H locs ls (by decide) (by decide) (by have h7 : (0 : Int32).toInt = 0 := rfl; omega) hP hD hS (lv_sub hl [0, 1, 2] rfl)

def v_k_of : List Cond := .code yX0_of cX0_of 10 (some .long) :: ([.methodLink RX0 13 Lib.MathLoose.abs_long.x, .static Lib.MathLoose.abs_long.x, .initialized "java/lang/Math", .code Lib.MathLoose.abs_long.x Lib.MathLoose.abs_long.code 2 (some .long), .constantLong RX0 23 (-1000000000), .constantLong RX0 25 1000000000] ++ (wsS RX0 19 yX0_greatestShared v_k_shared))
theorem g_k_of_0 : GoodIn v_k_of (wsS RX0 19 yX0_greatestShared v_k_shared) := goodIn_sub (fun w h => List.mem_cons_of_mem _ (List.mem_append_right _ h)) (by decide +kernel)
set_option maxHeartbeats 4000000 in
set_option maxRecDepth 100000 in
theorem k_of (l : Launch) (D : va_G) (y : Nat → ClassId) (sz : Nat) (x z : Int64) : Met l yX0_of v_k_of ({ frames := 1, cells := 0, slots := 0, locals := 40 } : Room) (va_Pc [.long x, .long z] (xPre D (xT y) [] sz)) (va_Ql (fun (r : Int64) (_ : Unit) => True) (fun (u : Unit) => xB D (xT y) (va_A [] sz) []) (va_A [] sz)) 0 0 (va_A [] sz) := by
  refine x_metl (cc := cX0_of) (maxL := 10) (by decide) rfl (Nat.le_of_ble_eq_true rfl) ?_
  intro p e s m below meth c A H locs Q hx hb hml hown hts hr hlocks hmn hA hP hK hD hS ls hl hQ
  have hl : lv_has ls 10 [(0, .long x), (2, .long z)] := hl
  refine lv_lload_n hx hb dX0_of_0 rfl (lv_at hl 1 rfl) ?_
  refine lv_lconst (v := 0) hx hb dX0_of_1 (by decide) ?_
  refine W.lcmp hx hb dX0_of_2 ?_
  refine lv_if_ne (tgt := 8) hx hb dX0_of_3 (by decide) (fun c_1 => ?_) (fun c_1 => ?_)
  · have kc_1 : z.toInt ≠ 0 := by have h9 := x_tri z (0 : Int64); (try simp only [Int64.reduceToInt] at h9); rcases h9 with ⟨g1, g2⟩ | ⟨g1, g2⟩ | ⟨g1, g2⟩ <;> first | omega | (exfalso; rw [g1] at c_1; revert c_1; decide)
    refine lv_lload_n hx hb dX0_of_8 rfl (lv_at hl 1 rfl) ?_
    refine lv_lconst (v := 0) hx hb dX0_of_9 (by decide) ?_
    refine W.lcmp hx hb dX0_of_10 ?_
    refine lv_if_ge (tgt := 19) hx hb dX0_of_11 (by decide) (fun c_2 => ?_) (fun c_2 => ?_)
    · have kc_2 : z.toInt ≥ 0 := by have h9 := x_tri z (0 : Int64); (try simp only [Int64.reduceToInt] at h9); rcases h9 with ⟨g1, g2⟩ | ⟨g1, g2⟩ | ⟨g1, g2⟩ <;> first | omega | (exfalso; rw [g1] at c_2; revert c_2; decide)
      refine lv_lload_n hx hb dX0_of_19 rfl (lv_at hl 0 rfl) ?_
      refine lv_lstore (lv' := [(4, .long x), (0, .long x), (2, .long z)]) hx hb dX0_of_20 hl (by decide) rfl (fun ls hl => ?_)
      refine lv_lload_n hx hb dX0_of_22 rfl (lv_at hl 2 rfl) ?_
      refine va_mabs_long hx hb (hml.trans hl.1.symm) hown (hts (.methodLink RX0 13 Lib.MathLoose.abs_long.x) (List.mem_of_getElem? (i := 1) rfl)) (hts (.static Lib.MathLoose.abs_long.x) (List.mem_of_getElem? (i := 2) rfl)) (hts (.initialized "java/lang/Math") (List.mem_of_getElem? (i := 3) rfl)) (hts (.code Lib.MathLoose.abs_long.x Lib.MathLoose.abs_long.code 2 (some .long)) (List.mem_of_getElem? (i := 4) rfl)) (Nat.le_of_ble_eq_true rfl) (Nat.le_of_ble_eq_true rfl) (Nat.le_of_ble_eq_true rfl) (Nat.le_of_ble_eq_true rfl) dX0_of_23 ?_
      refine lv_topl (fun j_3 ej_3 => ?_)
      refine lv_lstore (lv' := [(6, .long j_3), (4, .long x), (0, .long x), (2, .long z)]) hx hb dX0_of_26 hl (by decide) rfl (fun ls hl => ?_)
      refine lv_lload hx hb dX0_of_28 (lv_at hl 1 rfl) ?_
      refine va_mabs_long hx hb (hml.trans hl.1.symm) hown (hts (.methodLink RX0 13 Lib.MathLoose.abs_long.x) (List.mem_of_getElem? (i := 1) rfl)) (hts (.static Lib.MathLoose.abs_long.x) (List.mem_of_getElem? (i := 2) rfl)) (hts (.initialized "java/lang/Math") (List.mem_of_getElem? (i := 3) rfl)) (hts (.code Lib.MathLoose.abs_long.x Lib.MathLoose.abs_long.code 2 (some .long)) (List.mem_of_getElem? (i := 4) rfl)) (Nat.le_of_ble_eq_true rfl) (Nat.le_of_ble_eq_true rfl) (Nat.le_of_ble_eq_true rfl) (Nat.le_of_ble_eq_true rfl) dX0_of_30 ?_
      refine lv_topl (fun j_4 ej_4 => ?_)
      refine lv_lload hx hb dX0_of_33 (lv_at hl 0 rfl) ?_
      refine x_calllN (va_runS (As := [.long j_4, .long j_3]) (rest := []) ⟨hx, hb, hml, hown, hts⟩ (k_shared l D y H.size j_4 j_3) (cwS 2 hts g_k_of_0 rfl rfl rfl (by decide +kernel) ⟨Nat.le_of_ble_eq_true rfl, Nat.le_of_ble_eq_true rfl⟩) (x_preS hK (x_nilP D H) (x_nilD A)) rfl rfl hl.1 rfl (lv_room (Nat.le_of_ble_eq_true rfl)) dX0_of_35 ⟨Nat.le_of_ble_eq_true rfl, Nat.le_of_ble_eq_true rfl⟩) hP hD hS hA (fun r_5 u H locs hw hP hD hS => ?_)
      try dsimp only at hw
      refine lv_lstore (lv' := [(8, .long r_5), (6, .long j_3), (4, .long x), (0, .long x), (2, .long z)]) hx hb dX0_of_38 hl (by decide) rfl (fun ls hl => ?_)
      refine lv_lload hx hb dX0_of_40 (lv_at hl 0 rfl) ?_
      refine lv_lconst (v := 1) hx hb dX0_of_42 (by decide) ?_
      refine W.lcmp hx hb dX0_of_43 ?_
      refine lv_if_le (tgt := 61) hx hb dX0_of_44 (by decide) (fun c_6 => ?_) (fun c_6 => ?_)
      · have kc_6 : r_5.toInt ≤ 1 := by have h9 := x_tri r_5 (1 : Int64); (try simp only [Int64.reduceToInt] at h9); rcases h9 with ⟨g1, g2⟩ | ⟨g1, g2⟩ | ⟨g1, g2⟩ <;> first | omega | (exfalso; rw [g1] at c_6; revert c_6; decide)
        refine lv_lload hx hb dX0_of_61 (lv_at hl 2 rfl) ?_
        refine lv_ldc2 (v := (-1000000000)) hx hb hown (hts (.constantLong RX0 23 (-1000000000)) (List.mem_of_getElem? (i := 5) rfl)) dX0_of_63 ?_
        refine W.lcmp hx hb dX0_of_66 ?_
        refine lv_if_lt (tgt := 88) hx hb dX0_of_67 (by decide) (fun c_7 => ?_) (fun c_7 => ?_)
        · have kc_7 : x.toInt < (-1000000000) := by have h9 := x_tri x ((-1000000000) : Int64); (try simp only [Int64.reduceToInt] at h9); rcases h9 with ⟨g1, g2⟩ | ⟨g1, g2⟩ | ⟨g1, g2⟩ <;> first | omega | (exfalso; rw [g1] at c_7; revert c_7; decide)
          refine lv_lconst (v := 0) hx hb dX0_of_88 (by decide) ?_
          exact x_lretW (v := 0) (u := ()) hx hb hr hQ trivial (x_nilP D H) (x_nilD A) hK hS dX0_of_89 hlocks
        · have kc_7 : x.toInt ≥ (-1000000000) := by have h9 := x_tri x ((-1000000000) : Int64); (try simp only [Int64.reduceToInt] at h9); rcases h9 with ⟨g1, g2⟩ | ⟨g1, g2⟩ | ⟨g1, g2⟩ <;> first | omega | (exfalso; rw [g1] at c_7; revert c_7; decide)
          refine lv_lload hx hb dX0_of_70 (lv_at hl 2 rfl) ?_
          refine lv_ldc2 (v := 1000000000) hx hb hown (hts (.constantLong RX0 25 1000000000) (List.mem_of_getElem? (i := 6) rfl)) dX0_of_72 ?_
          refine W.lcmp hx hb dX0_of_75 ?_
          refine lv_if_gt (tgt := 88) hx hb dX0_of_76 (by decide) (fun c_8 => ?_) (fun c_8 => ?_)
          · have kc_8 : x.toInt > 1000000000 := by have h9 := x_tri x (1000000000 : Int64); (try simp only [Int64.reduceToInt] at h9); rcases h9 with ⟨g1, g2⟩ | ⟨g1, g2⟩ | ⟨g1, g2⟩ <;> first | omega | (exfalso; rw [g1] at c_8; revert c_8; decide)
            refine lv_lconst (v := 0) hx hb dX0_of_88 (by decide) ?_
            exact x_lretW (v := 0) (u := ()) hx hb hr hQ trivial (x_nilP D H) (x_nilD A) hK hS dX0_of_89 hlocks
          · have kc_8 : x.toInt ≤ 1000000000 := by have h9 := x_tri x (1000000000 : Int64); (try simp only [Int64.reduceToInt] at h9); rcases h9 with ⟨g1, g2⟩ | ⟨g1, g2⟩ | ⟨g1, g2⟩ <;> first | omega | (exfalso; rw [g1] at c_8; revert c_8; decide)
            refine lv_lload hx hb dX0_of_79 (lv_at hl 1 rfl) ?_
            refine lv_ldc2 (v := 1000000000) hx hb hown (hts (.constantLong RX0 25 1000000000) (List.mem_of_getElem? (i := 6) rfl)) dX0_of_81 ?_
            refine W.lcmp hx hb dX0_of_84 ?_
            refine lv_if_le (tgt := 90) hx hb dX0_of_85 (by decide) (fun c_9 => ?_) (fun c_9 => ?_)
            · have kc_9 : j_3.toInt ≤ 1000000000 := by have h9 := x_tri j_3 (1000000000 : Int64); (try simp only [Int64.reduceToInt] at h9); rcases h9 with ⟨g1, g2⟩ | ⟨g1, g2⟩ | ⟨g1, g2⟩ <;> first | omega | (exfalso; rw [g1] at c_9; revert c_9; decide)
              refine lv_lload hx hb dX0_of_90 (lv_at hl 2 rfl) ?_
              refine lv_bipush (v := 30) hx hb dX0_of_92 (by decide) ?_
              refine lv_lshl hx hb dX0_of_94 rfl ?_
              refine lv_topl (fun j_10 ej_10 => ?_)
              refine lv_lload hx hb dX0_of_95 (lv_at hl 1 rfl) ?_
              refine lv_lor hx hb dX0_of_97 ?_
              refine lv_topl (fun j_11 ej_11 => ?_)
              exact x_lretW (v := j_11) (u := ()) hx hb hr hQ trivial (x_nilP D H) (x_nilD A) hK hS dX0_of_98 hlocks
            · have kc_9 : j_3.toInt > 1000000000 := by have h9 := x_tri j_3 (1000000000 : Int64); (try simp only [Int64.reduceToInt] at h9); rcases h9 with ⟨g1, g2⟩ | ⟨g1, g2⟩ | ⟨g1, g2⟩ <;> first | omega | (exfalso; rw [g1] at c_9; revert c_9; decide)
              refine lv_lconst (v := 0) hx hb dX0_of_88 (by decide) ?_
              exact x_lretW (v := 0) (u := ()) hx hb hr hQ trivial (x_nilP D H) (x_nilD A) hK hS dX0_of_89 hlocks
      · have kc_6 : r_5.toInt > 1 := by have h9 := x_tri r_5 (1 : Int64); (try simp only [Int64.reduceToInt] at h9); rcases h9 with ⟨g1, g2⟩ | ⟨g1, g2⟩ | ⟨g1, g2⟩ <;> first | omega | (exfalso; rw [g1] at c_6; revert c_6; decide)
        refine lv_lload hx hb dX0_of_47 (lv_at hl 2 rfl) ?_
        refine lv_lload hx hb dX0_of_49 (lv_at hl 0 rfl) ?_
        refine lv_ldiv hx hb dX0_of_51 (fun h9 => absurd (show r_5.toInt = 0 by rw [h9]; rfl) (by omega)) ?_
        refine lv_topl (fun j_12 ej_12 => ?_)
        refine lv_lstore (lv' := [(4, .long j_12), (8, .long r_5), (6, .long j_3), (0, .long x), (2, .long z)]) hx hb dX0_of_52 hl (by decide) rfl (fun ls hl => ?_)
        refine lv_lload hx hb dX0_of_54 (lv_at hl 2 rfl) ?_
        refine lv_lload hx hb dX0_of_56 (lv_at hl 1 rfl) ?_
        refine lv_ldiv hx hb dX0_of_58 (fun h9 => absurd (show r_5.toInt = 0 by rw [h9]; rfl) (by omega)) ?_
        refine lv_topl (fun j_13 ej_13 => ?_)
        refine lv_lstore (lv' := [(6, .long j_13), (4, .long j_12), (8, .long r_5), (0, .long x), (2, .long z)]) hx hb dX0_of_59 hl (by decide) rfl (fun ls hl => ?_)
        refine lv_lload hx hb dX0_of_61 (lv_at hl 1 rfl) ?_
        refine lv_ldc2 (v := (-1000000000)) hx hb hown (hts (.constantLong RX0 23 (-1000000000)) (List.mem_of_getElem? (i := 5) rfl)) dX0_of_63 ?_
        refine W.lcmp hx hb dX0_of_66 ?_
        refine lv_if_lt (tgt := 88) hx hb dX0_of_67 (by decide) (fun c_14 => ?_) (fun c_14 => ?_)
        · have kc_14 : j_12.toInt < (-1000000000) := by have h9 := x_tri j_12 ((-1000000000) : Int64); (try simp only [Int64.reduceToInt] at h9); rcases h9 with ⟨g1, g2⟩ | ⟨g1, g2⟩ | ⟨g1, g2⟩ <;> first | omega | (exfalso; rw [g1] at c_14; revert c_14; decide)
          refine lv_lconst (v := 0) hx hb dX0_of_88 (by decide) ?_
          exact x_lretW (v := 0) (u := ()) hx hb hr hQ trivial (x_nilP D H) (x_nilD A) hK hS dX0_of_89 hlocks
        · have kc_14 : j_12.toInt ≥ (-1000000000) := by have h9 := x_tri j_12 ((-1000000000) : Int64); (try simp only [Int64.reduceToInt] at h9); rcases h9 with ⟨g1, g2⟩ | ⟨g1, g2⟩ | ⟨g1, g2⟩ <;> first | omega | (exfalso; rw [g1] at c_14; revert c_14; decide)
          refine lv_lload hx hb dX0_of_70 (lv_at hl 1 rfl) ?_
          refine lv_ldc2 (v := 1000000000) hx hb hown (hts (.constantLong RX0 25 1000000000) (List.mem_of_getElem? (i := 6) rfl)) dX0_of_72 ?_
          refine W.lcmp hx hb dX0_of_75 ?_
          refine lv_if_gt (tgt := 88) hx hb dX0_of_76 (by decide) (fun c_15 => ?_) (fun c_15 => ?_)
          · have kc_15 : j_12.toInt > 1000000000 := by have h9 := x_tri j_12 (1000000000 : Int64); (try simp only [Int64.reduceToInt] at h9); rcases h9 with ⟨g1, g2⟩ | ⟨g1, g2⟩ | ⟨g1, g2⟩ <;> first | omega | (exfalso; rw [g1] at c_15; revert c_15; decide)
            refine lv_lconst (v := 0) hx hb dX0_of_88 (by decide) ?_
            exact x_lretW (v := 0) (u := ()) hx hb hr hQ trivial (x_nilP D H) (x_nilD A) hK hS dX0_of_89 hlocks
          · have kc_15 : j_12.toInt ≤ 1000000000 := by have h9 := x_tri j_12 (1000000000 : Int64); (try simp only [Int64.reduceToInt] at h9); rcases h9 with ⟨g1, g2⟩ | ⟨g1, g2⟩ | ⟨g1, g2⟩ <;> first | omega | (exfalso; rw [g1] at c_15; revert c_15; decide)
            refine lv_lload hx hb dX0_of_79 (lv_at hl 0 rfl) ?_
            refine lv_ldc2 (v := 1000000000) hx hb hown (hts (.constantLong RX0 25 1000000000) (List.mem_of_getElem? (i := 6) rfl)) dX0_of_81 ?_
            refine W.lcmp hx hb dX0_of_84 ?_
            refine lv_if_le (tgt := 90) hx hb dX0_of_85 (by decide) (fun c_16 => ?_) (fun c_16 => ?_)
            · have kc_16 : j_13.toInt ≤ 1000000000 := by have h9 := x_tri j_13 (1000000000 : Int64); (try simp only [Int64.reduceToInt] at h9); rcases h9 with ⟨g1, g2⟩ | ⟨g1, g2⟩ | ⟨g1, g2⟩ <;> first | omega | (exfalso; rw [g1] at c_16; revert c_16; decide)
              refine lv_lload hx hb dX0_of_90 (lv_at hl 1 rfl) ?_
              refine lv_bipush (v := 30) hx hb dX0_of_92 (by decide) ?_
              refine lv_lshl hx hb dX0_of_94 rfl ?_
              refine lv_topl (fun j_17 ej_17 => ?_)
              refine lv_lload hx hb dX0_of_95 (lv_at hl 0 rfl) ?_
              refine lv_lor hx hb dX0_of_97 ?_
              refine lv_topl (fun j_18 ej_18 => ?_)
              exact x_lretW (v := j_18) (u := ()) hx hb hr hQ trivial (x_nilP D H) (x_nilD A) hK hS dX0_of_98 hlocks
            · have kc_16 : j_13.toInt > 1000000000 := by have h9 := x_tri j_13 (1000000000 : Int64); (try simp only [Int64.reduceToInt] at h9); rcases h9 with ⟨g1, g2⟩ | ⟨g1, g2⟩ | ⟨g1, g2⟩ <;> first | omega | (exfalso; rw [g1] at c_16; revert c_16; decide)
              refine lv_lconst (v := 0) hx hb dX0_of_88 (by decide) ?_
              exact x_lretW (v := 0) (u := ()) hx hb hr hQ trivial (x_nilP D H) (x_nilD A) hK hS dX0_of_89 hlocks
    · have kc_2 : z.toInt < 0 := by have h9 := x_tri z (0 : Int64); (try simp only [Int64.reduceToInt] at h9); rcases h9 with ⟨g1, g2⟩ | ⟨g1, g2⟩ | ⟨g1, g2⟩ <;> first | omega | (exfalso; rw [g1] at c_2; revert c_2; decide)
      refine lv_lload_n hx hb dX0_of_14 rfl (lv_at hl 0 rfl) ?_
      refine lv_lneg hx hb dX0_of_15 ?_
      refine lv_topl (fun j_19 ej_19 => ?_)
      refine lv_goto (tgt := 20) hx hb dX0_of_16 (by decide) ?_
      refine lv_lstore (lv' := [(4, .long j_19), (0, .long x), (2, .long z)]) hx hb dX0_of_20 hl (by decide) rfl (fun ls hl => ?_)
      refine lv_lload_n hx hb dX0_of_22 rfl (lv_at hl 2 rfl) ?_
      refine va_mabs_long hx hb (hml.trans hl.1.symm) hown (hts (.methodLink RX0 13 Lib.MathLoose.abs_long.x) (List.mem_of_getElem? (i := 1) rfl)) (hts (.static Lib.MathLoose.abs_long.x) (List.mem_of_getElem? (i := 2) rfl)) (hts (.initialized "java/lang/Math") (List.mem_of_getElem? (i := 3) rfl)) (hts (.code Lib.MathLoose.abs_long.x Lib.MathLoose.abs_long.code 2 (some .long)) (List.mem_of_getElem? (i := 4) rfl)) (Nat.le_of_ble_eq_true rfl) (Nat.le_of_ble_eq_true rfl) (Nat.le_of_ble_eq_true rfl) (Nat.le_of_ble_eq_true rfl) dX0_of_23 ?_
      refine lv_topl (fun j_20 ej_20 => ?_)
      refine lv_lstore (lv' := [(6, .long j_20), (4, .long j_19), (0, .long x), (2, .long z)]) hx hb dX0_of_26 hl (by decide) rfl (fun ls hl => ?_)
      refine lv_lload hx hb dX0_of_28 (lv_at hl 1 rfl) ?_
      refine va_mabs_long hx hb (hml.trans hl.1.symm) hown (hts (.methodLink RX0 13 Lib.MathLoose.abs_long.x) (List.mem_of_getElem? (i := 1) rfl)) (hts (.static Lib.MathLoose.abs_long.x) (List.mem_of_getElem? (i := 2) rfl)) (hts (.initialized "java/lang/Math") (List.mem_of_getElem? (i := 3) rfl)) (hts (.code Lib.MathLoose.abs_long.x Lib.MathLoose.abs_long.code 2 (some .long)) (List.mem_of_getElem? (i := 4) rfl)) (Nat.le_of_ble_eq_true rfl) (Nat.le_of_ble_eq_true rfl) (Nat.le_of_ble_eq_true rfl) (Nat.le_of_ble_eq_true rfl) dX0_of_30 ?_
      refine lv_topl (fun j_21 ej_21 => ?_)
      refine lv_lload hx hb dX0_of_33 (lv_at hl 0 rfl) ?_
      refine x_calllN (va_runS (As := [.long j_21, .long j_20]) (rest := []) ⟨hx, hb, hml, hown, hts⟩ (k_shared l D y H.size j_21 j_20) (cwS 2 hts g_k_of_0 rfl rfl rfl (by decide +kernel) ⟨Nat.le_of_ble_eq_true rfl, Nat.le_of_ble_eq_true rfl⟩) (x_preS hK (x_nilP D H) (x_nilD A)) rfl rfl hl.1 rfl (lv_room (Nat.le_of_ble_eq_true rfl)) dX0_of_35 ⟨Nat.le_of_ble_eq_true rfl, Nat.le_of_ble_eq_true rfl⟩) hP hD hS hA (fun r_22 u H locs hw hP hD hS => ?_)
      try dsimp only at hw
      refine lv_lstore (lv' := [(8, .long r_22), (6, .long j_20), (4, .long j_19), (0, .long x), (2, .long z)]) hx hb dX0_of_38 hl (by decide) rfl (fun ls hl => ?_)
      refine lv_lload hx hb dX0_of_40 (lv_at hl 0 rfl) ?_
      refine lv_lconst (v := 1) hx hb dX0_of_42 (by decide) ?_
      refine W.lcmp hx hb dX0_of_43 ?_
      refine lv_if_le (tgt := 61) hx hb dX0_of_44 (by decide) (fun c_23 => ?_) (fun c_23 => ?_)
      · have kc_23 : r_22.toInt ≤ 1 := by have h9 := x_tri r_22 (1 : Int64); (try simp only [Int64.reduceToInt] at h9); rcases h9 with ⟨g1, g2⟩ | ⟨g1, g2⟩ | ⟨g1, g2⟩ <;> first | omega | (exfalso; rw [g1] at c_23; revert c_23; decide)
        refine lv_lload hx hb dX0_of_61 (lv_at hl 2 rfl) ?_
        refine lv_ldc2 (v := (-1000000000)) hx hb hown (hts (.constantLong RX0 23 (-1000000000)) (List.mem_of_getElem? (i := 5) rfl)) dX0_of_63 ?_
        refine W.lcmp hx hb dX0_of_66 ?_
        refine lv_if_lt (tgt := 88) hx hb dX0_of_67 (by decide) (fun c_24 => ?_) (fun c_24 => ?_)
        · have kc_24 : j_19.toInt < (-1000000000) := by have h9 := x_tri j_19 ((-1000000000) : Int64); (try simp only [Int64.reduceToInt] at h9); rcases h9 with ⟨g1, g2⟩ | ⟨g1, g2⟩ | ⟨g1, g2⟩ <;> first | omega | (exfalso; rw [g1] at c_24; revert c_24; decide)
          refine lv_lconst (v := 0) hx hb dX0_of_88 (by decide) ?_
          exact x_lretW (v := 0) (u := ()) hx hb hr hQ trivial (x_nilP D H) (x_nilD A) hK hS dX0_of_89 hlocks
        · have kc_24 : j_19.toInt ≥ (-1000000000) := by have h9 := x_tri j_19 ((-1000000000) : Int64); (try simp only [Int64.reduceToInt] at h9); rcases h9 with ⟨g1, g2⟩ | ⟨g1, g2⟩ | ⟨g1, g2⟩ <;> first | omega | (exfalso; rw [g1] at c_24; revert c_24; decide)
          refine lv_lload hx hb dX0_of_70 (lv_at hl 2 rfl) ?_
          refine lv_ldc2 (v := 1000000000) hx hb hown (hts (.constantLong RX0 25 1000000000) (List.mem_of_getElem? (i := 6) rfl)) dX0_of_72 ?_
          refine W.lcmp hx hb dX0_of_75 ?_
          refine lv_if_gt (tgt := 88) hx hb dX0_of_76 (by decide) (fun c_25 => ?_) (fun c_25 => ?_)
          · have kc_25 : j_19.toInt > 1000000000 := by have h9 := x_tri j_19 (1000000000 : Int64); (try simp only [Int64.reduceToInt] at h9); rcases h9 with ⟨g1, g2⟩ | ⟨g1, g2⟩ | ⟨g1, g2⟩ <;> first | omega | (exfalso; rw [g1] at c_25; revert c_25; decide)
            refine lv_lconst (v := 0) hx hb dX0_of_88 (by decide) ?_
            exact x_lretW (v := 0) (u := ()) hx hb hr hQ trivial (x_nilP D H) (x_nilD A) hK hS dX0_of_89 hlocks
          · have kc_25 : j_19.toInt ≤ 1000000000 := by have h9 := x_tri j_19 (1000000000 : Int64); (try simp only [Int64.reduceToInt] at h9); rcases h9 with ⟨g1, g2⟩ | ⟨g1, g2⟩ | ⟨g1, g2⟩ <;> first | omega | (exfalso; rw [g1] at c_25; revert c_25; decide)
            refine lv_lload hx hb dX0_of_79 (lv_at hl 1 rfl) ?_
            refine lv_ldc2 (v := 1000000000) hx hb hown (hts (.constantLong RX0 25 1000000000) (List.mem_of_getElem? (i := 6) rfl)) dX0_of_81 ?_
            refine W.lcmp hx hb dX0_of_84 ?_
            refine lv_if_le (tgt := 90) hx hb dX0_of_85 (by decide) (fun c_26 => ?_) (fun c_26 => ?_)
            · have kc_26 : j_20.toInt ≤ 1000000000 := by have h9 := x_tri j_20 (1000000000 : Int64); (try simp only [Int64.reduceToInt] at h9); rcases h9 with ⟨g1, g2⟩ | ⟨g1, g2⟩ | ⟨g1, g2⟩ <;> first | omega | (exfalso; rw [g1] at c_26; revert c_26; decide)
              refine lv_lload hx hb dX0_of_90 (lv_at hl 2 rfl) ?_
              refine lv_bipush (v := 30) hx hb dX0_of_92 (by decide) ?_
              refine lv_lshl hx hb dX0_of_94 rfl ?_
              refine lv_topl (fun j_27 ej_27 => ?_)
              refine lv_lload hx hb dX0_of_95 (lv_at hl 1 rfl) ?_
              refine lv_lor hx hb dX0_of_97 ?_
              refine lv_topl (fun j_28 ej_28 => ?_)
              exact x_lretW (v := j_28) (u := ()) hx hb hr hQ trivial (x_nilP D H) (x_nilD A) hK hS dX0_of_98 hlocks
            · have kc_26 : j_20.toInt > 1000000000 := by have h9 := x_tri j_20 (1000000000 : Int64); (try simp only [Int64.reduceToInt] at h9); rcases h9 with ⟨g1, g2⟩ | ⟨g1, g2⟩ | ⟨g1, g2⟩ <;> first | omega | (exfalso; rw [g1] at c_26; revert c_26; decide)
              refine lv_lconst (v := 0) hx hb dX0_of_88 (by decide) ?_
              exact x_lretW (v := 0) (u := ()) hx hb hr hQ trivial (x_nilP D H) (x_nilD A) hK hS dX0_of_89 hlocks
      · have kc_23 : r_22.toInt > 1 := by have h9 := x_tri r_22 (1 : Int64); (try simp only [Int64.reduceToInt] at h9); rcases h9 with ⟨g1, g2⟩ | ⟨g1, g2⟩ | ⟨g1, g2⟩ <;> first | omega | (exfalso; rw [g1] at c_23; revert c_23; decide)
        refine lv_lload hx hb dX0_of_47 (lv_at hl 2 rfl) ?_
        refine lv_lload hx hb dX0_of_49 (lv_at hl 0 rfl) ?_
        refine lv_ldiv hx hb dX0_of_51 (fun h9 => absurd (show r_22.toInt = 0 by rw [h9]; rfl) (by omega)) ?_
        refine lv_topl (fun j_29 ej_29 => ?_)
        refine lv_lstore (lv' := [(4, .long j_29), (8, .long r_22), (6, .long j_20), (0, .long x), (2, .long z)]) hx hb dX0_of_52 hl (by decide) rfl (fun ls hl => ?_)
        refine lv_lload hx hb dX0_of_54 (lv_at hl 2 rfl) ?_
        refine lv_lload hx hb dX0_of_56 (lv_at hl 1 rfl) ?_
        refine lv_ldiv hx hb dX0_of_58 (fun h9 => absurd (show r_22.toInt = 0 by rw [h9]; rfl) (by omega)) ?_
        refine lv_topl (fun j_30 ej_30 => ?_)
        refine lv_lstore (lv' := [(6, .long j_30), (4, .long j_29), (8, .long r_22), (0, .long x), (2, .long z)]) hx hb dX0_of_59 hl (by decide) rfl (fun ls hl => ?_)
        refine lv_lload hx hb dX0_of_61 (lv_at hl 1 rfl) ?_
        refine lv_ldc2 (v := (-1000000000)) hx hb hown (hts (.constantLong RX0 23 (-1000000000)) (List.mem_of_getElem? (i := 5) rfl)) dX0_of_63 ?_
        refine W.lcmp hx hb dX0_of_66 ?_
        refine lv_if_lt (tgt := 88) hx hb dX0_of_67 (by decide) (fun c_31 => ?_) (fun c_31 => ?_)
        · have kc_31 : j_29.toInt < (-1000000000) := by have h9 := x_tri j_29 ((-1000000000) : Int64); (try simp only [Int64.reduceToInt] at h9); rcases h9 with ⟨g1, g2⟩ | ⟨g1, g2⟩ | ⟨g1, g2⟩ <;> first | omega | (exfalso; rw [g1] at c_31; revert c_31; decide)
          refine lv_lconst (v := 0) hx hb dX0_of_88 (by decide) ?_
          exact x_lretW (v := 0) (u := ()) hx hb hr hQ trivial (x_nilP D H) (x_nilD A) hK hS dX0_of_89 hlocks
        · have kc_31 : j_29.toInt ≥ (-1000000000) := by have h9 := x_tri j_29 ((-1000000000) : Int64); (try simp only [Int64.reduceToInt] at h9); rcases h9 with ⟨g1, g2⟩ | ⟨g1, g2⟩ | ⟨g1, g2⟩ <;> first | omega | (exfalso; rw [g1] at c_31; revert c_31; decide)
          refine lv_lload hx hb dX0_of_70 (lv_at hl 1 rfl) ?_
          refine lv_ldc2 (v := 1000000000) hx hb hown (hts (.constantLong RX0 25 1000000000) (List.mem_of_getElem? (i := 6) rfl)) dX0_of_72 ?_
          refine W.lcmp hx hb dX0_of_75 ?_
          refine lv_if_gt (tgt := 88) hx hb dX0_of_76 (by decide) (fun c_32 => ?_) (fun c_32 => ?_)
          · have kc_32 : j_29.toInt > 1000000000 := by have h9 := x_tri j_29 (1000000000 : Int64); (try simp only [Int64.reduceToInt] at h9); rcases h9 with ⟨g1, g2⟩ | ⟨g1, g2⟩ | ⟨g1, g2⟩ <;> first | omega | (exfalso; rw [g1] at c_32; revert c_32; decide)
            refine lv_lconst (v := 0) hx hb dX0_of_88 (by decide) ?_
            exact x_lretW (v := 0) (u := ()) hx hb hr hQ trivial (x_nilP D H) (x_nilD A) hK hS dX0_of_89 hlocks
          · have kc_32 : j_29.toInt ≤ 1000000000 := by have h9 := x_tri j_29 (1000000000 : Int64); (try simp only [Int64.reduceToInt] at h9); rcases h9 with ⟨g1, g2⟩ | ⟨g1, g2⟩ | ⟨g1, g2⟩ <;> first | omega | (exfalso; rw [g1] at c_32; revert c_32; decide)
            refine lv_lload hx hb dX0_of_79 (lv_at hl 0 rfl) ?_
            refine lv_ldc2 (v := 1000000000) hx hb hown (hts (.constantLong RX0 25 1000000000) (List.mem_of_getElem? (i := 6) rfl)) dX0_of_81 ?_
            refine W.lcmp hx hb dX0_of_84 ?_
            refine lv_if_le (tgt := 90) hx hb dX0_of_85 (by decide) (fun c_33 => ?_) (fun c_33 => ?_)
            · have kc_33 : j_30.toInt ≤ 1000000000 := by have h9 := x_tri j_30 (1000000000 : Int64); (try simp only [Int64.reduceToInt] at h9); rcases h9 with ⟨g1, g2⟩ | ⟨g1, g2⟩ | ⟨g1, g2⟩ <;> first | omega | (exfalso; rw [g1] at c_33; revert c_33; decide)
              refine lv_lload hx hb dX0_of_90 (lv_at hl 1 rfl) ?_
              refine lv_bipush (v := 30) hx hb dX0_of_92 (by decide) ?_
              refine lv_lshl hx hb dX0_of_94 rfl ?_
              refine lv_topl (fun j_34 ej_34 => ?_)
              refine lv_lload hx hb dX0_of_95 (lv_at hl 0 rfl) ?_
              refine lv_lor hx hb dX0_of_97 ?_
              refine lv_topl (fun j_35 ej_35 => ?_)
              exact x_lretW (v := j_35) (u := ()) hx hb hr hQ trivial (x_nilP D H) (x_nilD A) hK hS dX0_of_98 hlocks
            · have kc_33 : j_30.toInt > 1000000000 := by have h9 := x_tri j_30 (1000000000 : Int64); (try simp only [Int64.reduceToInt] at h9); rcases h9 with ⟨g1, g2⟩ | ⟨g1, g2⟩ | ⟨g1, g2⟩ <;> first | omega | (exfalso; rw [g1] at c_33; revert c_33; decide)
              refine lv_lconst (v := 0) hx hb dX0_of_88 (by decide) ?_
              exact x_lretW (v := 0) (u := ()) hx hb hr hQ trivial (x_nilP D H) (x_nilD A) hK hS dX0_of_89 hlocks
  · have kc_1 : z.toInt = 0 := by have h9 := x_tri z (0 : Int64); (try simp only [Int64.reduceToInt] at h9); rcases h9 with ⟨g1, g2⟩ | ⟨g1, g2⟩ | ⟨g1, g2⟩ <;> first | omega | (exfalso; rw [g1] at c_1; revert c_1; decide)
    refine lv_lconst (v := 0) hx hb dX0_of_6 (by decide) ?_
    exact x_lretW (v := 0) (u := ()) hx hb hr hQ trivial (x_nilP D H) (x_nilD A) hK hS dX0_of_7 hlocks

def v_k_plus : List Cond := .code yX0_plus cX0_plus 4 (some .long) :: ([] ++ ((wsS RX0 27 yX0_above v_k_above) ++ ((wsS RX0 30 yX0_below v_k_below) ++ (wsS RX0 33 yX0_of v_k_of))))
theorem g_k_plus_0 : GoodIn v_k_plus (wsS RX0 27 yX0_above v_k_above) := goodIn_sub (fun w h => List.mem_cons_of_mem _ (List.mem_append_right _ (List.mem_append_left _ h))) (by decide +kernel)
theorem g_k_plus_1 : GoodIn v_k_plus (wsS RX0 30 yX0_below v_k_below) := goodIn_sub (fun w h => List.mem_cons_of_mem _ (List.mem_append_right _ (List.mem_append_right _ (List.mem_append_left _ h)))) (by decide +kernel)
theorem g_k_plus_2 : GoodIn v_k_plus (wsS RX0 33 yX0_of v_k_of) := goodIn_sub (fun w h => List.mem_cons_of_mem _ (List.mem_append_right _ (List.mem_append_right _ (List.mem_append_right _ h)))) (by decide +kernel)
set_option maxHeartbeats 4000000 in
set_option maxRecDepth 100000 in
theorem k_plus (l : Launch) (D : va_G) (y : Nat → ClassId) (sz : Nat) (x z : Int64) : Met l yX0_plus v_k_plus ({ frames := 2, cells := 0, slots := 0, locals := 69 } : Room) (va_Pc [.long x, .long z] (xPre D (xT y) [] sz)) (va_Ql (fun (r : Int64) (_ : Unit) => True) (fun (u : Unit) => xB D (xT y) (va_A [] sz) []) (va_A [] sz)) 0 0 (va_A [] sz) := by
  refine x_metl (cc := cX0_plus) (maxL := 4) (by decide) rfl (Nat.le_of_ble_eq_true rfl) ?_
  intro p e s m below meth c A H locs Q hx hb hml hown hts hr hlocks hmn hA hP hK hD hS ls hl hQ
  have hl : lv_has ls 4 [(0, .long x), (2, .long z)] := hl
  refine lv_lload_n hx hb dX0_plus_0 rfl (lv_at hl 0 rfl) ?_
  refine x_calllN (va_runS (As := [.long x]) (rest := []) ⟨hx, hb, hml, hown, hts⟩ (k_above l D y H.size x) (cwS 1 hts g_k_plus_0 rfl rfl rfl (by decide +kernel) ⟨Nat.le_of_ble_eq_true rfl, Nat.le_of_ble_eq_true rfl⟩) (x_preS hK (x_nilP D H) (x_nilD A)) rfl rfl hl.1 rfl (lv_room (Nat.le_of_ble_eq_true rfl)) dX0_plus_1 ⟨Nat.le_of_ble_eq_true rfl, Nat.le_of_ble_eq_true rfl⟩) hP hD hS hA (fun r_1 u H locs hw hP hD hS => ?_)
  try dsimp only at hw
  refine lv_lload_n hx hb dX0_plus_4 rfl (lv_at hl 1 rfl) ?_
  refine x_calllN (va_runS (As := [.long z]) (rest := [.long r_1]) ⟨hx, hb, hml, hown, hts⟩ (k_below l D y H.size z) (cwS 1 hts g_k_plus_1 rfl rfl rfl (by decide +kernel) ⟨Nat.le_of_ble_eq_true rfl, Nat.le_of_ble_eq_true rfl⟩) (x_preS hK (x_nilP D H) (x_nilD A)) rfl rfl hl.1 rfl (lv_room (Nat.le_of_ble_eq_true rfl)) dX0_plus_5 ⟨Nat.le_of_ble_eq_true rfl, Nat.le_of_ble_eq_true rfl⟩) hP hD hS hA (fun r_2 u H locs hw hP hD hS => ?_)
  try dsimp only at hw
  refine lv_lmul hx hb dX0_plus_8 ?_
  refine lv_topl (fun j_3 ej_3 => ?_)
  refine lv_lload_n hx hb dX0_plus_9 rfl (lv_at hl 1 rfl) ?_
  refine x_calllN (va_runS (As := [.long z]) (rest := [.long j_3]) ⟨hx, hb, hml, hown, hts⟩ (k_above l D y H.size z) (cwS 1 hts g_k_plus_0 rfl rfl rfl (by decide +kernel) ⟨Nat.le_of_ble_eq_true rfl, Nat.le_of_ble_eq_true rfl⟩) (x_preS hK (x_nilP D H) (x_nilD A)) rfl rfl hl.1 rfl (lv_room (Nat.le_of_ble_eq_true rfl)) dX0_plus_10 ⟨Nat.le_of_ble_eq_true rfl, Nat.le_of_ble_eq_true rfl⟩) hP hD hS hA (fun r_4 u H locs hw hP hD hS => ?_)
  try dsimp only at hw
  refine lv_lload_n hx hb dX0_plus_13 rfl (lv_at hl 0 rfl) ?_
  refine x_calllN (va_runS (As := [.long x]) (rest := [.long r_4, .long j_3]) ⟨hx, hb, hml, hown, hts⟩ (k_below l D y H.size x) (cwS 1 hts g_k_plus_1 rfl rfl rfl (by decide +kernel) ⟨Nat.le_of_ble_eq_true rfl, Nat.le_of_ble_eq_true rfl⟩) (x_preS hK (x_nilP D H) (x_nilD A)) rfl rfl hl.1 rfl (lv_room (Nat.le_of_ble_eq_true rfl)) dX0_plus_14 ⟨Nat.le_of_ble_eq_true rfl, Nat.le_of_ble_eq_true rfl⟩) hP hD hS hA (fun r_5 u H locs hw hP hD hS => ?_)
  try dsimp only at hw
  refine lv_lmul hx hb dX0_plus_17 ?_
  refine lv_topl (fun j_6 ej_6 => ?_)
  refine lv_ladd hx hb dX0_plus_18 ?_
  refine lv_topl (fun j_7 ej_7 => ?_)
  refine lv_lload_n hx hb dX0_plus_19 rfl (lv_at hl 0 rfl) ?_
  refine x_calllN (va_runS (As := [.long x]) (rest := [.long j_7]) ⟨hx, hb, hml, hown, hts⟩ (k_below l D y H.size x) (cwS 1 hts g_k_plus_1 rfl rfl rfl (by decide +kernel) ⟨Nat.le_of_ble_eq_true rfl, Nat.le_of_ble_eq_true rfl⟩) (x_preS hK (x_nilP D H) (x_nilD A)) rfl rfl hl.1 rfl (lv_room (Nat.le_of_ble_eq_true rfl)) dX0_plus_20 ⟨Nat.le_of_ble_eq_true rfl, Nat.le_of_ble_eq_true rfl⟩) hP hD hS hA (fun r_8 u H locs hw hP hD hS => ?_)
  try dsimp only at hw
  refine lv_lload_n hx hb dX0_plus_23 rfl (lv_at hl 1 rfl) ?_
  refine x_calllN (va_runS (As := [.long z]) (rest := [.long r_8, .long j_7]) ⟨hx, hb, hml, hown, hts⟩ (k_below l D y H.size z) (cwS 1 hts g_k_plus_1 rfl rfl rfl (by decide +kernel) ⟨Nat.le_of_ble_eq_true rfl, Nat.le_of_ble_eq_true rfl⟩) (x_preS hK (x_nilP D H) (x_nilD A)) rfl rfl hl.1 rfl (lv_room (Nat.le_of_ble_eq_true rfl)) dX0_plus_24 ⟨Nat.le_of_ble_eq_true rfl, Nat.le_of_ble_eq_true rfl⟩) hP hD hS hA (fun r_9 u H locs hw hP hD hS => ?_)
  try dsimp only at hw
  refine lv_lmul hx hb dX0_plus_27 ?_
  refine lv_topl (fun j_10 ej_10 => ?_)
  refine x_calllN (va_runS (As := [.long j_7, .long j_10]) (rest := []) ⟨hx, hb, hml, hown, hts⟩ (k_of l D y H.size j_7 j_10) (cwS 2 hts g_k_plus_2 rfl rfl rfl (by decide +kernel) ⟨Nat.le_of_ble_eq_true rfl, Nat.le_of_ble_eq_true rfl⟩) (x_preS hK (x_nilP D H) (x_nilD A)) rfl rfl hl.1 rfl (lv_room (Nat.le_of_ble_eq_true rfl)) dX0_plus_28 ⟨Nat.le_of_ble_eq_true rfl, Nat.le_of_ble_eq_true rfl⟩) hP hD hS hA (fun r_11 u H locs hw hP hD hS => ?_)
  try dsimp only at hw
  exact x_lretW (v := r_11) (u := ()) hx hb hr hQ trivial (x_nilP D H) (x_nilD A) hK hS dX0_plus_31 hlocks

def v_k_minus : List Cond := .code yX0_minus cX0_minus 4 (some .long) :: ([] ++ ((wsS RX0 27 yX0_above v_k_above) ++ ((wsS RX0 30 yX0_below v_k_below) ++ (wsS RX0 33 yX0_of v_k_of))))
theorem g_k_minus_0 : GoodIn v_k_minus (wsS RX0 27 yX0_above v_k_above) := goodIn_sub (fun w h => List.mem_cons_of_mem _ (List.mem_append_right _ (List.mem_append_left _ h))) (by decide +kernel)
theorem g_k_minus_1 : GoodIn v_k_minus (wsS RX0 30 yX0_below v_k_below) := goodIn_sub (fun w h => List.mem_cons_of_mem _ (List.mem_append_right _ (List.mem_append_right _ (List.mem_append_left _ h)))) (by decide +kernel)
theorem g_k_minus_2 : GoodIn v_k_minus (wsS RX0 33 yX0_of v_k_of) := goodIn_sub (fun w h => List.mem_cons_of_mem _ (List.mem_append_right _ (List.mem_append_right _ (List.mem_append_right _ h)))) (by decide +kernel)
set_option maxHeartbeats 4000000 in
set_option maxRecDepth 100000 in
theorem k_minus (l : Launch) (D : va_G) (y : Nat → ClassId) (sz : Nat) (x z : Int64) : Met l yX0_minus v_k_minus ({ frames := 2, cells := 0, slots := 0, locals := 69 } : Room) (va_Pc [.long x, .long z] (xPre D (xT y) [] sz)) (va_Ql (fun (r : Int64) (_ : Unit) => True) (fun (u : Unit) => xB D (xT y) (va_A [] sz) []) (va_A [] sz)) 0 0 (va_A [] sz) := by
  refine x_metl (cc := cX0_minus) (maxL := 4) (by decide) rfl (Nat.le_of_ble_eq_true rfl) ?_
  intro p e s m below meth c A H locs Q hx hb hml hown hts hr hlocks hmn hA hP hK hD hS ls hl hQ
  have hl : lv_has ls 4 [(0, .long x), (2, .long z)] := hl
  refine lv_lload_n hx hb dX0_minus_0 rfl (lv_at hl 0 rfl) ?_
  refine x_calllN (va_runS (As := [.long x]) (rest := []) ⟨hx, hb, hml, hown, hts⟩ (k_above l D y H.size x) (cwS 1 hts g_k_minus_0 rfl rfl rfl (by decide +kernel) ⟨Nat.le_of_ble_eq_true rfl, Nat.le_of_ble_eq_true rfl⟩) (x_preS hK (x_nilP D H) (x_nilD A)) rfl rfl hl.1 rfl (lv_room (Nat.le_of_ble_eq_true rfl)) dX0_minus_1 ⟨Nat.le_of_ble_eq_true rfl, Nat.le_of_ble_eq_true rfl⟩) hP hD hS hA (fun r_1 u H locs hw hP hD hS => ?_)
  try dsimp only at hw
  refine lv_lload_n hx hb dX0_minus_4 rfl (lv_at hl 1 rfl) ?_
  refine x_calllN (va_runS (As := [.long z]) (rest := [.long r_1]) ⟨hx, hb, hml, hown, hts⟩ (k_below l D y H.size z) (cwS 1 hts g_k_minus_1 rfl rfl rfl (by decide +kernel) ⟨Nat.le_of_ble_eq_true rfl, Nat.le_of_ble_eq_true rfl⟩) (x_preS hK (x_nilP D H) (x_nilD A)) rfl rfl hl.1 rfl (lv_room (Nat.le_of_ble_eq_true rfl)) dX0_minus_5 ⟨Nat.le_of_ble_eq_true rfl, Nat.le_of_ble_eq_true rfl⟩) hP hD hS hA (fun r_2 u H locs hw hP hD hS => ?_)
  try dsimp only at hw
  refine lv_lmul hx hb dX0_minus_8 ?_
  refine lv_topl (fun j_3 ej_3 => ?_)
  refine lv_lload_n hx hb dX0_minus_9 rfl (lv_at hl 1 rfl) ?_
  refine x_calllN (va_runS (As := [.long z]) (rest := [.long j_3]) ⟨hx, hb, hml, hown, hts⟩ (k_above l D y H.size z) (cwS 1 hts g_k_minus_0 rfl rfl rfl (by decide +kernel) ⟨Nat.le_of_ble_eq_true rfl, Nat.le_of_ble_eq_true rfl⟩) (x_preS hK (x_nilP D H) (x_nilD A)) rfl rfl hl.1 rfl (lv_room (Nat.le_of_ble_eq_true rfl)) dX0_minus_10 ⟨Nat.le_of_ble_eq_true rfl, Nat.le_of_ble_eq_true rfl⟩) hP hD hS hA (fun r_4 u H locs hw hP hD hS => ?_)
  try dsimp only at hw
  refine lv_lload_n hx hb dX0_minus_13 rfl (lv_at hl 0 rfl) ?_
  refine x_calllN (va_runS (As := [.long x]) (rest := [.long r_4, .long j_3]) ⟨hx, hb, hml, hown, hts⟩ (k_below l D y H.size x) (cwS 1 hts g_k_minus_1 rfl rfl rfl (by decide +kernel) ⟨Nat.le_of_ble_eq_true rfl, Nat.le_of_ble_eq_true rfl⟩) (x_preS hK (x_nilP D H) (x_nilD A)) rfl rfl hl.1 rfl (lv_room (Nat.le_of_ble_eq_true rfl)) dX0_minus_14 ⟨Nat.le_of_ble_eq_true rfl, Nat.le_of_ble_eq_true rfl⟩) hP hD hS hA (fun r_5 u H locs hw hP hD hS => ?_)
  try dsimp only at hw
  refine lv_lmul hx hb dX0_minus_17 ?_
  refine lv_topl (fun j_6 ej_6 => ?_)
  refine lv_lsub hx hb dX0_minus_18 ?_
  refine lv_topl (fun j_7 ej_7 => ?_)
  refine lv_lload_n hx hb dX0_minus_19 rfl (lv_at hl 0 rfl) ?_
  refine x_calllN (va_runS (As := [.long x]) (rest := [.long j_7]) ⟨hx, hb, hml, hown, hts⟩ (k_below l D y H.size x) (cwS 1 hts g_k_minus_1 rfl rfl rfl (by decide +kernel) ⟨Nat.le_of_ble_eq_true rfl, Nat.le_of_ble_eq_true rfl⟩) (x_preS hK (x_nilP D H) (x_nilD A)) rfl rfl hl.1 rfl (lv_room (Nat.le_of_ble_eq_true rfl)) dX0_minus_20 ⟨Nat.le_of_ble_eq_true rfl, Nat.le_of_ble_eq_true rfl⟩) hP hD hS hA (fun r_8 u H locs hw hP hD hS => ?_)
  try dsimp only at hw
  refine lv_lload_n hx hb dX0_minus_23 rfl (lv_at hl 1 rfl) ?_
  refine x_calllN (va_runS (As := [.long z]) (rest := [.long r_8, .long j_7]) ⟨hx, hb, hml, hown, hts⟩ (k_below l D y H.size z) (cwS 1 hts g_k_minus_1 rfl rfl rfl (by decide +kernel) ⟨Nat.le_of_ble_eq_true rfl, Nat.le_of_ble_eq_true rfl⟩) (x_preS hK (x_nilP D H) (x_nilD A)) rfl rfl hl.1 rfl (lv_room (Nat.le_of_ble_eq_true rfl)) dX0_minus_24 ⟨Nat.le_of_ble_eq_true rfl, Nat.le_of_ble_eq_true rfl⟩) hP hD hS hA (fun r_9 u H locs hw hP hD hS => ?_)
  try dsimp only at hw
  refine lv_lmul hx hb dX0_minus_27 ?_
  refine lv_topl (fun j_10 ej_10 => ?_)
  refine x_calllN (va_runS (As := [.long j_7, .long j_10]) (rest := []) ⟨hx, hb, hml, hown, hts⟩ (k_of l D y H.size j_7 j_10) (cwS 2 hts g_k_minus_2 rfl rfl rfl (by decide +kernel) ⟨Nat.le_of_ble_eq_true rfl, Nat.le_of_ble_eq_true rfl⟩) (x_preS hK (x_nilP D H) (x_nilD A)) rfl rfl hl.1 rfl (lv_room (Nat.le_of_ble_eq_true rfl)) dX0_minus_28 ⟨Nat.le_of_ble_eq_true rfl, Nat.le_of_ble_eq_true rfl⟩) hP hD hS hA (fun r_11 u H locs hw hP hD hS => ?_)
  try dsimp only at hw
  exact x_lretW (v := r_11) (u := ()) hx hb hr hQ trivial (x_nilP D H) (x_nilD A) hK hS dX0_minus_31 hlocks

def v_k_times : List Cond := .code yX0_times cX0_times 4 (some .long) :: ([] ++ ((wsS RX0 27 yX0_above v_k_above) ++ ((wsS RX0 30 yX0_below v_k_below) ++ (wsS RX0 33 yX0_of v_k_of))))
theorem g_k_times_0 : GoodIn v_k_times (wsS RX0 27 yX0_above v_k_above) := goodIn_sub (fun w h => List.mem_cons_of_mem _ (List.mem_append_right _ (List.mem_append_left _ h))) (by decide +kernel)
theorem g_k_times_1 : GoodIn v_k_times (wsS RX0 30 yX0_below v_k_below) := goodIn_sub (fun w h => List.mem_cons_of_mem _ (List.mem_append_right _ (List.mem_append_right _ (List.mem_append_left _ h)))) (by decide +kernel)
theorem g_k_times_2 : GoodIn v_k_times (wsS RX0 33 yX0_of v_k_of) := goodIn_sub (fun w h => List.mem_cons_of_mem _ (List.mem_append_right _ (List.mem_append_right _ (List.mem_append_right _ h)))) (by decide +kernel)
set_option maxHeartbeats 4000000 in
set_option maxRecDepth 100000 in
theorem k_times (l : Launch) (D : va_G) (y : Nat → ClassId) (sz : Nat) (x z : Int64) : Met l yX0_times v_k_times ({ frames := 2, cells := 0, slots := 0, locals := 69 } : Room) (va_Pc [.long x, .long z] (xPre D (xT y) [] sz)) (va_Ql (fun (r : Int64) (_ : Unit) => True) (fun (u : Unit) => xB D (xT y) (va_A [] sz) []) (va_A [] sz)) 0 0 (va_A [] sz) := by
  refine x_metl (cc := cX0_times) (maxL := 4) (by decide) rfl (Nat.le_of_ble_eq_true rfl) ?_
  intro p e s m below meth c A H locs Q hx hb hml hown hts hr hlocks hmn hA hP hK hD hS ls hl hQ
  have hl : lv_has ls 4 [(0, .long x), (2, .long z)] := hl
  refine lv_lload_n hx hb dX0_times_0 rfl (lv_at hl 0 rfl) ?_
  refine x_calllN (va_runS (As := [.long x]) (rest := []) ⟨hx, hb, hml, hown, hts⟩ (k_above l D y H.size x) (cwS 1 hts g_k_times_0 rfl rfl rfl (by decide +kernel) ⟨Nat.le_of_ble_eq_true rfl, Nat.le_of_ble_eq_true rfl⟩) (x_preS hK (x_nilP D H) (x_nilD A)) rfl rfl hl.1 rfl (lv_room (Nat.le_of_ble_eq_true rfl)) dX0_times_1 ⟨Nat.le_of_ble_eq_true rfl, Nat.le_of_ble_eq_true rfl⟩) hP hD hS hA (fun r_1 u H locs hw hP hD hS => ?_)
  try dsimp only at hw
  refine lv_lload_n hx hb dX0_times_4 rfl (lv_at hl 1 rfl) ?_
  refine x_calllN (va_runS (As := [.long z]) (rest := [.long r_1]) ⟨hx, hb, hml, hown, hts⟩ (k_above l D y H.size z) (cwS 1 hts g_k_times_0 rfl rfl rfl (by decide +kernel) ⟨Nat.le_of_ble_eq_true rfl, Nat.le_of_ble_eq_true rfl⟩) (x_preS hK (x_nilP D H) (x_nilD A)) rfl rfl hl.1 rfl (lv_room (Nat.le_of_ble_eq_true rfl)) dX0_times_5 ⟨Nat.le_of_ble_eq_true rfl, Nat.le_of_ble_eq_true rfl⟩) hP hD hS hA (fun r_2 u H locs hw hP hD hS => ?_)
  try dsimp only at hw
  refine lv_lmul hx hb dX0_times_8 ?_
  refine lv_topl (fun j_3 ej_3 => ?_)
  refine lv_lload_n hx hb dX0_times_9 rfl (lv_at hl 0 rfl) ?_
  refine x_calllN (va_runS (As := [.long x]) (rest := [.long j_3]) ⟨hx, hb, hml, hown, hts⟩ (k_below l D y H.size x) (cwS 1 hts g_k_times_1 rfl rfl rfl (by decide +kernel) ⟨Nat.le_of_ble_eq_true rfl, Nat.le_of_ble_eq_true rfl⟩) (x_preS hK (x_nilP D H) (x_nilD A)) rfl rfl hl.1 rfl (lv_room (Nat.le_of_ble_eq_true rfl)) dX0_times_10 ⟨Nat.le_of_ble_eq_true rfl, Nat.le_of_ble_eq_true rfl⟩) hP hD hS hA (fun r_4 u H locs hw hP hD hS => ?_)
  try dsimp only at hw
  refine lv_lload_n hx hb dX0_times_13 rfl (lv_at hl 1 rfl) ?_
  refine x_calllN (va_runS (As := [.long z]) (rest := [.long r_4, .long j_3]) ⟨hx, hb, hml, hown, hts⟩ (k_below l D y H.size z) (cwS 1 hts g_k_times_1 rfl rfl rfl (by decide +kernel) ⟨Nat.le_of_ble_eq_true rfl, Nat.le_of_ble_eq_true rfl⟩) (x_preS hK (x_nilP D H) (x_nilD A)) rfl rfl hl.1 rfl (lv_room (Nat.le_of_ble_eq_true rfl)) dX0_times_14 ⟨Nat.le_of_ble_eq_true rfl, Nat.le_of_ble_eq_true rfl⟩) hP hD hS hA (fun r_5 u H locs hw hP hD hS => ?_)
  try dsimp only at hw
  refine lv_lmul hx hb dX0_times_17 ?_
  refine lv_topl (fun j_6 ej_6 => ?_)
  refine x_calllN (va_runS (As := [.long j_3, .long j_6]) (rest := []) ⟨hx, hb, hml, hown, hts⟩ (k_of l D y H.size j_3 j_6) (cwS 2 hts g_k_times_2 rfl rfl rfl (by decide +kernel) ⟨Nat.le_of_ble_eq_true rfl, Nat.le_of_ble_eq_true rfl⟩) (x_preS hK (x_nilP D H) (x_nilD A)) rfl rfl hl.1 rfl (lv_room (Nat.le_of_ble_eq_true rfl)) dX0_times_18 ⟨Nat.le_of_ble_eq_true rfl, Nat.le_of_ble_eq_true rfl⟩) hP hD hS hA (fun r_7 u H locs hw hP hD hS => ?_)
  try dsimp only at hw
  exact x_lretW (v := r_7) (u := ()) hx hb hr hQ trivial (x_nilP D H) (x_nilD A) hK hS dX0_times_21 hlocks

def v_k_over : List Cond := .code yX0_over cX0_over 4 (some .long) :: ([] ++ ((wsS RX0 27 yX0_above v_k_above) ++ ((wsS RX0 30 yX0_below v_k_below) ++ (wsS RX0 33 yX0_of v_k_of))))
theorem g_k_over_0 : GoodIn v_k_over (wsS RX0 27 yX0_above v_k_above) := goodIn_sub (fun w h => List.mem_cons_of_mem _ (List.mem_append_right _ (List.mem_append_left _ h))) (by decide +kernel)
theorem g_k_over_1 : GoodIn v_k_over (wsS RX0 30 yX0_below v_k_below) := goodIn_sub (fun w h => List.mem_cons_of_mem _ (List.mem_append_right _ (List.mem_append_right _ (List.mem_append_left _ h)))) (by decide +kernel)
theorem g_k_over_2 : GoodIn v_k_over (wsS RX0 33 yX0_of v_k_of) := goodIn_sub (fun w h => List.mem_cons_of_mem _ (List.mem_append_right _ (List.mem_append_right _ (List.mem_append_right _ h)))) (by decide +kernel)
set_option maxHeartbeats 4000000 in
set_option maxRecDepth 100000 in
theorem k_over (l : Launch) (D : va_G) (y : Nat → ClassId) (sz : Nat) (x z : Int64) : Met l yX0_over v_k_over ({ frames := 2, cells := 0, slots := 0, locals := 69 } : Room) (va_Pc [.long x, .long z] (xPre D (xT y) [] sz)) (va_Ql (fun (r : Int64) (_ : Unit) => True) (fun (u : Unit) => xB D (xT y) (va_A [] sz) []) (va_A [] sz)) 0 0 (va_A [] sz) := by
  refine x_metl (cc := cX0_over) (maxL := 4) (by decide) rfl (Nat.le_of_ble_eq_true rfl) ?_
  intro p e s m below meth c A H locs Q hx hb hml hown hts hr hlocks hmn hA hP hK hD hS ls hl hQ
  have hl : lv_has ls 4 [(0, .long x), (2, .long z)] := hl
  refine lv_lload_n hx hb dX0_over_0 rfl (lv_at hl 0 rfl) ?_
  refine x_calllN (va_runS (As := [.long x]) (rest := []) ⟨hx, hb, hml, hown, hts⟩ (k_above l D y H.size x) (cwS 1 hts g_k_over_0 rfl rfl rfl (by decide +kernel) ⟨Nat.le_of_ble_eq_true rfl, Nat.le_of_ble_eq_true rfl⟩) (x_preS hK (x_nilP D H) (x_nilD A)) rfl rfl hl.1 rfl (lv_room (Nat.le_of_ble_eq_true rfl)) dX0_over_1 ⟨Nat.le_of_ble_eq_true rfl, Nat.le_of_ble_eq_true rfl⟩) hP hD hS hA (fun r_1 u H locs hw hP hD hS => ?_)
  try dsimp only at hw
  refine lv_lload_n hx hb dX0_over_4 rfl (lv_at hl 1 rfl) ?_
  refine x_calllN (va_runS (As := [.long z]) (rest := [.long r_1]) ⟨hx, hb, hml, hown, hts⟩ (k_below l D y H.size z) (cwS 1 hts g_k_over_1 rfl rfl rfl (by decide +kernel) ⟨Nat.le_of_ble_eq_true rfl, Nat.le_of_ble_eq_true rfl⟩) (x_preS hK (x_nilP D H) (x_nilD A)) rfl rfl hl.1 rfl (lv_room (Nat.le_of_ble_eq_true rfl)) dX0_over_5 ⟨Nat.le_of_ble_eq_true rfl, Nat.le_of_ble_eq_true rfl⟩) hP hD hS hA (fun r_2 u H locs hw hP hD hS => ?_)
  try dsimp only at hw
  refine lv_lmul hx hb dX0_over_8 ?_
  refine lv_topl (fun j_3 ej_3 => ?_)
  refine lv_lload_n hx hb dX0_over_9 rfl (lv_at hl 0 rfl) ?_
  refine x_calllN (va_runS (As := [.long x]) (rest := [.long j_3]) ⟨hx, hb, hml, hown, hts⟩ (k_below l D y H.size x) (cwS 1 hts g_k_over_1 rfl rfl rfl (by decide +kernel) ⟨Nat.le_of_ble_eq_true rfl, Nat.le_of_ble_eq_true rfl⟩) (x_preS hK (x_nilP D H) (x_nilD A)) rfl rfl hl.1 rfl (lv_room (Nat.le_of_ble_eq_true rfl)) dX0_over_10 ⟨Nat.le_of_ble_eq_true rfl, Nat.le_of_ble_eq_true rfl⟩) hP hD hS hA (fun r_4 u H locs hw hP hD hS => ?_)
  try dsimp only at hw
  refine lv_lload_n hx hb dX0_over_13 rfl (lv_at hl 1 rfl) ?_
  refine x_calllN (va_runS (As := [.long z]) (rest := [.long r_4, .long j_3]) ⟨hx, hb, hml, hown, hts⟩ (k_above l D y H.size z) (cwS 1 hts g_k_over_0 rfl rfl rfl (by decide +kernel) ⟨Nat.le_of_ble_eq_true rfl, Nat.le_of_ble_eq_true rfl⟩) (x_preS hK (x_nilP D H) (x_nilD A)) rfl rfl hl.1 rfl (lv_room (Nat.le_of_ble_eq_true rfl)) dX0_over_14 ⟨Nat.le_of_ble_eq_true rfl, Nat.le_of_ble_eq_true rfl⟩) hP hD hS hA (fun r_5 u H locs hw hP hD hS => ?_)
  try dsimp only at hw
  refine lv_lmul hx hb dX0_over_17 ?_
  refine lv_topl (fun j_6 ej_6 => ?_)
  refine x_calllN (va_runS (As := [.long j_3, .long j_6]) (rest := []) ⟨hx, hb, hml, hown, hts⟩ (k_of l D y H.size j_3 j_6) (cwS 2 hts g_k_over_2 rfl rfl rfl (by decide +kernel) ⟨Nat.le_of_ble_eq_true rfl, Nat.le_of_ble_eq_true rfl⟩) (x_preS hK (x_nilP D H) (x_nilD A)) rfl rfl hl.1 rfl (lv_room (Nat.le_of_ble_eq_true rfl)) dX0_over_18 ⟨Nat.le_of_ble_eq_true rfl, Nat.le_of_ble_eq_true rfl⟩) hP hD hS hA (fun r_7 u H locs hw hP hD hS => ?_)
  try dsimp only at hw
  exact x_lretW (v := r_7) (u := ()) hx hb hr hQ trivial (x_nilP D H) (x_nilD A) hK hS dX0_over_21 hlocks

def v_k_turned : List Cond := .code yX0_turned cX0_turned 2 (some .long) :: ([] ++ ((wsS RX0 27 yX0_above v_k_above) ++ (wsS RX0 30 yX0_below v_k_below)))
theorem g_k_turned_0 : GoodIn v_k_turned (wsS RX0 27 yX0_above v_k_above) := goodIn_sub (fun w h => List.mem_cons_of_mem _ (List.mem_append_right _ (List.mem_append_left _ h))) (by decide +kernel)
theorem g_k_turned_1 : GoodIn v_k_turned (wsS RX0 30 yX0_below v_k_below) := goodIn_sub (fun w h => List.mem_cons_of_mem _ (List.mem_append_right _ (List.mem_append_right _ h))) (by decide +kernel)
set_option maxHeartbeats 4000000 in
set_option maxRecDepth 100000 in
theorem k_turned (l : Launch) (D : va_G) (y : Nat → ClassId) (sz : Nat) (x : Int64) : Met l yX0_turned v_k_turned ({ frames := 1, cells := 0, slots := 0, locals := 21 } : Room) (va_Pc [.long x] (xPre D (xT y) [] sz)) (va_Ql (fun (r : Int64) (_ : Unit) => True) (fun (u : Unit) => xB D (xT y) (va_A [] sz) []) (va_A [] sz)) 0 0 (va_A [] sz) := by
  refine x_metl (cc := cX0_turned) (maxL := 2) (by decide) rfl (Nat.le_of_ble_eq_true rfl) ?_
  intro p e s m below meth c A H locs Q hx hb hml hown hts hr hlocks hmn hA hP hK hD hS ls hl hQ
  have hl : lv_has ls 2 [(0, .long x)] := hl
  refine lv_lload_n hx hb dX0_turned_0 rfl (lv_at hl 0 rfl) ?_
  refine x_calllN (va_runS (As := [.long x]) (rest := []) ⟨hx, hb, hml, hown, hts⟩ (k_above l D y H.size x) (cwS 1 hts g_k_turned_0 rfl rfl rfl (by decide +kernel) ⟨Nat.le_of_ble_eq_true rfl, Nat.le_of_ble_eq_true rfl⟩) (x_preS hK (x_nilP D H) (x_nilD A)) rfl rfl hl.1 rfl (lv_room (Nat.le_of_ble_eq_true rfl)) dX0_turned_1 ⟨Nat.le_of_ble_eq_true rfl, Nat.le_of_ble_eq_true rfl⟩) hP hD hS hA (fun r_1 u H locs hw hP hD hS => ?_)
  try dsimp only at hw
  refine lv_lneg hx hb dX0_turned_4 ?_
  refine lv_topl (fun j_2 ej_2 => ?_)
  refine lv_bipush (v := 30) hx hb dX0_turned_5 (by decide) ?_
  refine lv_lshl hx hb dX0_turned_7 rfl ?_
  refine lv_topl (fun j_3 ej_3 => ?_)
  refine lv_lload_n hx hb dX0_turned_8 rfl (lv_at hl 0 rfl) ?_
  refine x_calllN (va_runS (As := [.long x]) (rest := [.long j_3]) ⟨hx, hb, hml, hown, hts⟩ (k_below l D y H.size x) (cwS 1 hts g_k_turned_1 rfl rfl rfl (by decide +kernel) ⟨Nat.le_of_ble_eq_true rfl, Nat.le_of_ble_eq_true rfl⟩) (x_preS hK (x_nilP D H) (x_nilD A)) rfl rfl hl.1 rfl (lv_room (Nat.le_of_ble_eq_true rfl)) dX0_turned_9 ⟨Nat.le_of_ble_eq_true rfl, Nat.le_of_ble_eq_true rfl⟩) hP hD hS hA (fun r_4 u H locs hw hP hD hS => ?_)
  try dsimp only at hw
  refine lv_lor hx hb dX0_turned_12 ?_
  refine lv_topl (fun j_5 ej_5 => ?_)
  exact x_lretW (v := j_5) (u := ()) hx hb hr hQ trivial (x_nilP D H) (x_nilD A) hK hS dX0_turned_13 hlocks

def v_k_withoutSign : List Cond := .code yX0_withoutSign cX0_withoutSign 2 (some .long) :: ([] ++ ((wsS RX0 27 yX0_above v_k_above) ++ (wsS RX0 36 yX0_turned v_k_turned)))
theorem g_k_withoutSign_0 : GoodIn v_k_withoutSign (wsS RX0 27 yX0_above v_k_above) := goodIn_sub (fun w h => List.mem_cons_of_mem _ (List.mem_append_right _ (List.mem_append_left _ h))) (by decide +kernel)
theorem g_k_withoutSign_1 : GoodIn v_k_withoutSign (wsS RX0 36 yX0_turned v_k_turned) := goodIn_sub (fun w h => List.mem_cons_of_mem _ (List.mem_append_right _ (List.mem_append_right _ h))) (by decide +kernel)
set_option maxHeartbeats 4000000 in
set_option maxRecDepth 100000 in
theorem k_withoutSign (l : Launch) (D : va_G) (y : Nat → ClassId) (sz : Nat) (x : Int64) : Met l yX0_withoutSign v_k_withoutSign ({ frames := 2, cells := 0, slots := 0, locals := 42 } : Room) (va_Pc [.long x] (xPre D (xT y) [] sz)) (va_Ql (fun (r : Int64) (_ : Unit) => True) (fun (u : Unit) => xB D (xT y) (va_A [] sz) []) (va_A [] sz)) 0 0 (va_A [] sz) := by
  refine x_metl (cc := cX0_withoutSign) (maxL := 2) (by decide) rfl (Nat.le_of_ble_eq_true rfl) ?_
  intro p e s m below meth c A H locs Q hx hb hml hown hts hr hlocks hmn hA hP hK hD hS ls hl hQ
  have hl : lv_has ls 2 [(0, .long x)] := hl
  refine lv_lload_n hx hb dX0_withoutSign_0 rfl (lv_at hl 0 rfl) ?_
  refine x_calllN (va_runS (As := [.long x]) (rest := []) ⟨hx, hb, hml, hown, hts⟩ (k_above l D y H.size x) (cwS 1 hts g_k_withoutSign_0 rfl rfl rfl (by decide +kernel) ⟨Nat.le_of_ble_eq_true rfl, Nat.le_of_ble_eq_true rfl⟩) (x_preS hK (x_nilP D H) (x_nilD A)) rfl rfl hl.1 rfl (lv_room (Nat.le_of_ble_eq_true rfl)) dX0_withoutSign_1 ⟨Nat.le_of_ble_eq_true rfl, Nat.le_of_ble_eq_true rfl⟩) hP hD hS hA (fun r_1 u H locs hw hP hD hS => ?_)
  try dsimp only at hw
  refine lv_lconst (v := 0) hx hb dX0_withoutSign_4 (by decide) ?_
  refine W.lcmp hx hb dX0_withoutSign_5 ?_
  refine lv_if_ge (tgt := 16) hx hb dX0_withoutSign_6 (by decide) (fun c_2 => ?_) (fun c_2 => ?_)
  · have kc_2 : r_1.toInt ≥ 0 := by have h9 := x_tri r_1 (0 : Int64); (try simp only [Int64.reduceToInt] at h9); rcases h9 with ⟨g1, g2⟩ | ⟨g1, g2⟩ | ⟨g1, g2⟩ <;> first | omega | (exfalso; rw [g1] at c_2; revert c_2; decide)
    refine lv_lload_n hx hb dX0_withoutSign_16 rfl (lv_at hl 0 rfl) ?_
    exact x_lretW (v := x) (u := ()) hx hb hr hQ trivial (x_nilP D H) (x_nilD A) hK hS dX0_withoutSign_17 hlocks
  · have kc_2 : r_1.toInt < 0 := by have h9 := x_tri r_1 (0 : Int64); (try simp only [Int64.reduceToInt] at h9); rcases h9 with ⟨g1, g2⟩ | ⟨g1, g2⟩ | ⟨g1, g2⟩ <;> first | omega | (exfalso; rw [g1] at c_2; revert c_2; decide)
    refine lv_lload_n hx hb dX0_withoutSign_9 rfl (lv_at hl 0 rfl) ?_
    refine x_calllN (va_runS (As := [.long x]) (rest := []) ⟨hx, hb, hml, hown, hts⟩ (k_turned l D y H.size x) (cwS 1 hts g_k_withoutSign_1 rfl rfl rfl (by decide +kernel) ⟨Nat.le_of_ble_eq_true rfl, Nat.le_of_ble_eq_true rfl⟩) (x_preS hK (x_nilP D H) (x_nilD A)) rfl rfl hl.1 rfl (lv_room (Nat.le_of_ble_eq_true rfl)) dX0_withoutSign_10 ⟨Nat.le_of_ble_eq_true rfl, Nat.le_of_ble_eq_true rfl⟩) hP hD hS hA (fun r_3 u H locs hw hP hD hS => ?_)
    try dsimp only at hw
    refine lv_goto (tgt := 17) hx hb dX0_withoutSign_13 (by decide) ?_
    exact x_lretW (v := r_3) (u := ()) hx hb hr hQ trivial (x_nilP D H) (x_nilD A) hK hS dX0_withoutSign_17 hlocks

def v_k_compare : List Cond := .code yX0_compare cX0_compare 4 (some .int) :: ([] ++ ((wsS RX0 27 yX0_above v_k_above) ++ ((wsS RX0 30 yX0_below v_k_below) ++ (va_wsS RX0 39 yJ13_compare_74951 v_k_lcmp))))
theorem g_k_compare_0 : GoodIn v_k_compare (wsS RX0 27 yX0_above v_k_above) := goodIn_sub (fun w h => List.mem_cons_of_mem _ (List.mem_append_right _ (List.mem_append_left _ h))) (by decide +kernel)
theorem g_k_compare_1 : GoodIn v_k_compare (wsS RX0 30 yX0_below v_k_below) := goodIn_sub (fun w h => List.mem_cons_of_mem _ (List.mem_append_right _ (List.mem_append_right _ (List.mem_append_left _ h)))) (by decide +kernel)
theorem g_k_compare_2 : GoodIn v_k_compare (va_wsS RX0 39 yJ13_compare_74951 v_k_lcmp) := goodIn_sub (fun w h => List.mem_cons_of_mem _ (List.mem_append_right _ (List.mem_append_right _ (List.mem_append_right _ h)))) (by decide +kernel)
set_option maxHeartbeats 4000000 in
set_option maxRecDepth 100000 in
theorem k_compare (l : Launch) (D : va_G) (y : Nat → ClassId) (sz : Nat) (x z : Int64) : Met l yX0_compare v_k_compare ({ frames := 1, cells := 0, slots := 0, locals := 23 } : Room) (va_Pc [.long x, .long z] (xPre D (xT y) [] sz)) (va_Qi (fun (r : Int32) (_ : Unit) => True) (fun (u : Unit) => xB D (xT y) (va_A [] sz) []) (va_A [] sz)) 0 0 (va_A [] sz) := by
  refine x_meti (cc := cX0_compare) (maxL := 4) (by decide) rfl (Nat.le_of_ble_eq_true rfl) ?_
  intro p e s m below meth c A H locs Q hx hb hml hown hts hr hlocks hmn hA hP hK hD hS ls hl hQ
  have hl : lv_has ls 4 [(0, .long x), (2, .long z)] := hl
  refine lv_lload_n hx hb dX0_compare_0 rfl (lv_at hl 0 rfl) ?_
  refine x_calllN (va_runS (As := [.long x]) (rest := []) ⟨hx, hb, hml, hown, hts⟩ (k_above l D y H.size x) (cwS 1 hts g_k_compare_0 rfl rfl rfl (by decide +kernel) ⟨Nat.le_of_ble_eq_true rfl, Nat.le_of_ble_eq_true rfl⟩) (x_preS hK (x_nilP D H) (x_nilD A)) rfl rfl hl.1 rfl (lv_room (Nat.le_of_ble_eq_true rfl)) dX0_compare_1 ⟨Nat.le_of_ble_eq_true rfl, Nat.le_of_ble_eq_true rfl⟩) hP hD hS hA (fun r_1 u H locs hw hP hD hS => ?_)
  try dsimp only at hw
  refine lv_lload_n hx hb dX0_compare_4 rfl (lv_at hl 1 rfl) ?_
  refine x_calllN (va_runS (As := [.long z]) (rest := [.long r_1]) ⟨hx, hb, hml, hown, hts⟩ (k_below l D y H.size z) (cwS 1 hts g_k_compare_1 rfl rfl rfl (by decide +kernel) ⟨Nat.le_of_ble_eq_true rfl, Nat.le_of_ble_eq_true rfl⟩) (x_preS hK (x_nilP D H) (x_nilD A)) rfl rfl hl.1 rfl (lv_room (Nat.le_of_ble_eq_true rfl)) dX0_compare_5 ⟨Nat.le_of_ble_eq_true rfl, Nat.le_of_ble_eq_true rfl⟩) hP hD hS hA (fun r_2 u H locs hw hP hD hS => ?_)
  try dsimp only at hw
  refine lv_lmul hx hb dX0_compare_8 ?_
  refine lv_topl (fun j_3 ej_3 => ?_)
  refine lv_lload_n hx hb dX0_compare_9 rfl (lv_at hl 1 rfl) ?_
  refine x_calllN (va_runS (As := [.long z]) (rest := [.long j_3]) ⟨hx, hb, hml, hown, hts⟩ (k_above l D y H.size z) (cwS 1 hts g_k_compare_0 rfl rfl rfl (by decide +kernel) ⟨Nat.le_of_ble_eq_true rfl, Nat.le_of_ble_eq_true rfl⟩) (x_preS hK (x_nilP D H) (x_nilD A)) rfl rfl hl.1 rfl (lv_room (Nat.le_of_ble_eq_true rfl)) dX0_compare_10 ⟨Nat.le_of_ble_eq_true rfl, Nat.le_of_ble_eq_true rfl⟩) hP hD hS hA (fun r_4 u H locs hw hP hD hS => ?_)
  try dsimp only at hw
  refine lv_lload_n hx hb dX0_compare_13 rfl (lv_at hl 0 rfl) ?_
  refine x_calllN (va_runS (As := [.long x]) (rest := [.long r_4, .long j_3]) ⟨hx, hb, hml, hown, hts⟩ (k_below l D y H.size x) (cwS 1 hts g_k_compare_1 rfl rfl rfl (by decide +kernel) ⟨Nat.le_of_ble_eq_true rfl, Nat.le_of_ble_eq_true rfl⟩) (x_preS hK (x_nilP D H) (x_nilD A)) rfl rfl hl.1 rfl (lv_room (Nat.le_of_ble_eq_true rfl)) dX0_compare_14 ⟨Nat.le_of_ble_eq_true rfl, Nat.le_of_ble_eq_true rfl⟩) hP hD hS hA (fun r_5 u H locs hw hP hD hS => ?_)
  try dsimp only at hw
  refine lv_lmul hx hb dX0_compare_17 ?_
  refine lv_topl (fun j_6 ej_6 => ?_)
  refine x_calliN (va_runS (As := [.long j_3, .long j_6]) (rest := []) ⟨hx, hb, hml, hown, hts⟩ (k_lcmp l D y H.size j_3 j_6) (va_cwS 2 hts g_k_compare_2 rfl rfl rfl (by decide +kernel) ⟨Nat.le_of_ble_eq_true rfl, Nat.le_of_ble_eq_true rfl⟩) (x_preS hK (x_nilP D H) (x_nilD A)) rfl rfl hl.1 rfl (lv_room (Nat.le_of_ble_eq_true rfl)) dX0_compare_18 ⟨Nat.le_of_ble_eq_true rfl, Nat.le_of_ble_eq_true rfl⟩) hP hD hS hA (fun r_7 u H locs hw hP hD hS => ?_)
  try dsimp only at hw
  exact x_iretW (v := r_7) (u := ()) hx hb hr hQ trivial (x_nilP D H) (x_nilD A) hK hS dX0_compare_21 hlocks

