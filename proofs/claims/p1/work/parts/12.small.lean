theorem dX8_forget_0 : decode cX8_forget 0 = .ok (.aload_n 0, 1) := by decide +kernel
theorem dX8_forget_1 : decode cX8_forget 1 = .ok (.iconst (-1), 1) := by decide +kernel
theorem dX8_forget_2 : decode cX8_forget 2 = .ok (.putfield 28, 3) := by decide +kernel
theorem dX8_forget_5 : decode cX8_forget 5 = .ok (.aload_n 0, 1) := by decide +kernel
theorem dX8_forget_6 : decode cX8_forget 6 = .ok (.iconst 0, 1) := by decide +kernel
theorem dX8_forget_7 : decode cX8_forget 7 = .ok (.putfield 38, 3) := by decide +kernel
theorem dX8_forget_10 : decode cX8_forget 10 = .ok (.aload_n 0, 1) := by decide +kernel
theorem dX8_forget_11 : decode cX8_forget 11 = .ok (.iconst 0, 1) := by decide +kernel
theorem dX8_forget_12 : decode cX8_forget 12 = .ok (.putfield 41, 3) := by decide +kernel
theorem dX8_forget_15 : decode cX8_forget 15 = .ok (.aload_n 0, 1) := by decide +kernel
theorem dX8_forget_16 : decode cX8_forget 16 = .ok (.iconst 0, 1) := by decide +kernel
theorem dX8_forget_17 : decode cX8_forget 17 = .ok (.putfield 44, 3) := by decide +kernel
theorem dX8_forget_20 : decode cX8_forget 20 = .ok (.aload_n 0, 1) := by decide +kernel
theorem dX8_forget_21 : decode cX8_forget 21 = .ok (.iconst 0, 1) := by decide +kernel
theorem dX8_forget_22 : decode cX8_forget 22 = .ok (.putfield 47, 3) := by decide +kernel
theorem dX8_forget_25 : decode cX8_forget 25 = .ok (.aload_n 0, 1) := by decide +kernel
theorem dX8_forget_26 : decode cX8_forget 26 = .ok (.iconst 0, 1) := by decide +kernel
theorem dX8_forget_27 : decode cX8_forget 27 = .ok (.putfield 50, 3) := by decide +kernel
theorem dX8_forget_30 : decode cX8_forget 30 = .ok (.aload_n 0, 1) := by decide +kernel
theorem dX8_forget_31 : decode cX8_forget 31 = .ok (.iconst 0, 1) := by decide +kernel
theorem dX8_forget_32 : decode cX8_forget 32 = .ok (.putfield 53, 3) := by decide +kernel
theorem dX8_forget_35 : decode cX8_forget 35 = .ok (.aload_n 0, 1) := by decide +kernel
theorem dX8_forget_36 : decode cX8_forget 36 = .ok (.lconst 0, 1) := by decide +kernel
theorem dX8_forget_37 : decode cX8_forget 37 = .ok (.putfield 34, 3) := by decide +kernel
theorem dX8_forget_40 : decode cX8_forget 40 = .ok (.return_, 1) := by decide +kernel
theorem dX8_zeroAt_0 : decode cX8_zeroAt 0 = .ok (.aload_n 0, 1) := by decide +kernel
theorem dX8_zeroAt_1 : decode cX8_zeroAt 1 = .ok (.getfield 38, 3) := by decide +kernel
theorem dX8_zeroAt_4 : decode cX8_zeroAt 4 = .ok (.ireturn, 1) := by decide +kernel
theorem dX8_hasResult_0 : decode cX8_hasResult 0 = .ok (.iload_n 1, 1) := by decide +kernel
theorem dX8_hasResult_1 : decode cX8_hasResult 1 = .ok (.ifCond .lt 15, 3) := by decide +kernel
theorem dX8_hasResult_4 : decode cX8_hasResult 4 = .ok (.iload_n 1, 1) := by decide +kernel
theorem dX8_hasResult_5 : decode cX8_hasResult 5 = .ok (.aload_n 0, 1) := by decide +kernel
theorem dX8_hasResult_6 : decode cX8_hasResult 6 = .ok (.getfield 50, 3) := by decide +kernel
theorem dX8_hasResult_9 : decode cX8_hasResult 9 = .ok (.if_icmp .ge 7, 3) := by decide +kernel
theorem dX8_hasResult_12 : decode cX8_hasResult 12 = .ok (.iconst 1, 1) := by decide +kernel
theorem dX8_hasResult_13 : decode cX8_hasResult 13 = .ok (.goto 4, 3) := by decide +kernel
theorem dX8_hasResult_16 : decode cX8_hasResult 16 = .ok (.iconst 0, 1) := by decide +kernel
theorem dX8_hasResult_17 : decode cX8_hasResult 17 = .ok (.ireturn, 1) := by decide +kernel
theorem dX8_hasBoth_0 : decode cX8_hasBoth 0 = .ok (.aload_n 0, 1) := by decide +kernel
theorem dX8_hasBoth_1 : decode cX8_hasBoth 1 = .ok (.iload_n 1, 1) := by decide +kernel
theorem dX8_hasBoth_2 : decode cX8_hasBoth 2 = .ok (.invokevirtual 76, 3) := by decide +kernel
theorem dX8_hasBoth_5 : decode cX8_hasBoth 5 = .ok (.ifCond .eq 19, 3) := by decide +kernel
theorem dX8_hasBoth_8 : decode cX8_hasBoth 8 = .ok (.iload_n 2, 1) := by decide +kernel
theorem dX8_hasBoth_9 : decode cX8_hasBoth 9 = .ok (.ifCond .lt 15, 3) := by decide +kernel
theorem dX8_hasBoth_12 : decode cX8_hasBoth 12 = .ok (.iload_n 2, 1) := by decide +kernel
theorem dX8_hasBoth_13 : decode cX8_hasBoth 13 = .ok (.aload_n 0, 1) := by decide +kernel
theorem dX8_hasBoth_14 : decode cX8_hasBoth 14 = .ok (.getfield 38, 3) := by decide +kernel
theorem dX8_hasBoth_17 : decode cX8_hasBoth 17 = .ok (.if_icmp .ge 7, 3) := by decide +kernel
theorem dX8_hasBoth_20 : decode cX8_hasBoth 20 = .ok (.iconst 1, 1) := by decide +kernel
theorem dX8_hasBoth_21 : decode cX8_hasBoth 21 = .ok (.goto 4, 3) := by decide +kernel
theorem dX8_hasBoth_24 : decode cX8_hasBoth 24 = .ok (.iconst 0, 1) := by decide +kernel
theorem dX8_hasBoth_25 : decode cX8_hasBoth 25 = .ok (.ireturn, 1) := by decide +kernel
theorem dX8_resultValue_0 : decode cX8_resultValue 0 = .ok (.aload_n 0, 1) := by decide +kernel
theorem dX8_resultValue_1 : decode cX8_resultValue 1 = .ok (.iload_n 1, 1) := by decide +kernel
theorem dX8_resultValue_2 : decode cX8_resultValue 2 = .ok (.invokevirtual 76, 3) := by decide +kernel
theorem dX8_resultValue_5 : decode cX8_resultValue 5 = .ok (.ifCond .eq 16, 3) := by decide +kernel
theorem dX8_resultValue_8 : decode cX8_resultValue 8 = .ok (.aload_n 0, 1) := by decide +kernel
theorem dX8_resultValue_9 : decode cX8_resultValue 9 = .ok (.aload_n 0, 1) := by decide +kernel
theorem dX8_resultValue_10 : decode cX8_resultValue 10 = .ok (.getfield 25, 3) := by decide +kernel
theorem dX8_resultValue_13 : decode cX8_resultValue 13 = .ok (.iload_n 1, 1) := by decide +kernel
theorem dX8_resultValue_14 : decode cX8_resultValue 14 = .ok (.iaload, 1) := by decide +kernel
theorem dX8_resultValue_15 : decode cX8_resultValue 15 = .ok (.invokevirtual 80, 3) := by decide +kernel
theorem dX8_resultValue_18 : decode cX8_resultValue 18 = .ok (.goto 4, 3) := by decide +kernel
theorem dX8_resultValue_21 : decode cX8_resultValue 21 = .ok (.lconst 0, 1) := by decide +kernel
theorem dX8_resultValue_22 : decode cX8_resultValue 22 = .ok (.lreturn, 1) := by decide +kernel
theorem dX1_forget_0 : decode cX1_forget 0 = .ok (.aload_n 0, 1) := by decide +kernel
theorem dX1_forget_1 : decode cX1_forget 1 = .ok (.iconst 0, 1) := by decide +kernel
theorem dX1_forget_2 : decode cX1_forget 2 = .ok (.putfield 20, 3) := by decide +kernel
theorem dX1_forget_5 : decode cX1_forget 5 = .ok (.return_, 1) := by decide +kernel
theorem dX1_groupOf_0 : decode cX1_groupOf 0 = .ok (.iload_n 1, 1) := by decide +kernel
theorem dX1_groupOf_1 : decode cX1_groupOf 1 = .ok (.ifCond .lt 20, 3) := by decide +kernel
theorem dX1_groupOf_4 : decode cX1_groupOf 4 = .ok (.iload_n 1, 1) := by decide +kernel
theorem dX1_groupOf_5 : decode cX1_groupOf 5 = .ok (.aload_n 0, 1) := by decide +kernel
theorem dX1_groupOf_6 : decode cX1_groupOf 6 = .ok (.getfield 20, 3) := by decide +kernel
theorem dX1_groupOf_9 : decode cX1_groupOf 9 = .ok (.if_icmp .ge 12, 3) := by decide +kernel
theorem dX1_groupOf_12 : decode cX1_groupOf 12 = .ok (.aload_n 0, 1) := by decide +kernel
theorem dX1_groupOf_13 : decode cX1_groupOf 13 = .ok (.getfield 11, 3) := by decide +kernel
theorem dX1_groupOf_16 : decode cX1_groupOf 16 = .ok (.iload_n 1, 1) := by decide +kernel
theorem dX1_groupOf_17 : decode cX1_groupOf 17 = .ok (.iaload, 1) := by decide +kernel
theorem dX1_groupOf_18 : decode cX1_groupOf 18 = .ok (.goto 4, 3) := by decide +kernel
theorem dX1_groupOf_21 : decode cX1_groupOf 21 = .ok (.iconst (-1), 1) := by decide +kernel
theorem dX1_groupOf_22 : decode cX1_groupOf 22 = .ok (.ireturn, 1) := by decide +kernel
theorem dX2_holds_0 : decode cX2_holds 0 = .ok (.iload_n 1, 1) := by decide +kernel
theorem dX2_holds_1 : decode cX2_holds 1 = .ok (.ifCond .lt 15, 3) := by decide +kernel
theorem dX2_holds_4 : decode cX2_holds 4 = .ok (.iload_n 1, 1) := by decide +kernel
theorem dX2_holds_5 : decode cX2_holds 5 = .ok (.aload_n 0, 1) := by decide +kernel
theorem dX2_holds_6 : decode cX2_holds 6 = .ok (.getfield 25, 3) := by decide +kernel
theorem dX2_holds_9 : decode cX2_holds 9 = .ok (.if_icmp .ge 7, 3) := by decide +kernel
theorem dX2_holds_12 : decode cX2_holds 12 = .ok (.iconst 1, 1) := by decide +kernel
theorem dX2_holds_13 : decode cX2_holds 13 = .ok (.goto 4, 3) := by decide +kernel
theorem dX2_holds_16 : decode cX2_holds 16 = .ok (.iconst 0, 1) := by decide +kernel
theorem dX2_holds_17 : decode cX2_holds 17 = .ok (.ireturn, 1) := by decide +kernel
theorem dX2_valueOf_0 : decode cX2_valueOf 0 = .ok (.aload_n 0, 1) := by decide +kernel
theorem dX2_valueOf_1 : decode cX2_valueOf 1 = .ok (.iload_n 1, 1) := by decide +kernel
theorem dX2_valueOf_2 : decode cX2_valueOf 2 = .ok (.invokevirtual 37, 3) := by decide +kernel
theorem dX2_valueOf_5 : decode cX2_valueOf 5 = .ok (.ifCond .eq 12, 3) := by decide +kernel
theorem dX2_valueOf_8 : decode cX2_valueOf 8 = .ok (.aload_n 0, 1) := by decide +kernel
theorem dX2_valueOf_9 : decode cX2_valueOf 9 = .ok (.getfield 9, 3) := by decide +kernel
theorem dX2_valueOf_12 : decode cX2_valueOf 12 = .ok (.iload_n 1, 1) := by decide +kernel
theorem dX2_valueOf_13 : decode cX2_valueOf 13 = .ok (.laload, 1) := by decide +kernel
theorem dX2_valueOf_14 : decode cX2_valueOf 14 = .ok (.goto 4, 3) := by decide +kernel
theorem dX2_valueOf_17 : decode cX2_valueOf 17 = .ok (.lconst 0, 1) := by decide +kernel
theorem dX2_valueOf_18 : decode cX2_valueOf 18 = .ok (.lreturn, 1) := by decide +kernel
theorem dX2_begin_0 : decode cX2_begin 0 = .ok (.aload_n 0, 1) := by decide +kernel
theorem dX2_begin_1 : decode cX2_begin 1 = .ok (.iload_n 1, 1) := by decide +kernel
theorem dX2_begin_2 : decode cX2_begin 2 = .ok (.putfield 25, 3) := by decide +kernel
theorem dX2_begin_5 : decode cX2_begin 5 = .ok (.aload_n 0, 1) := by decide +kernel
theorem dX2_begin_6 : decode cX2_begin 6 = .ok (.iconst 0, 1) := by decide +kernel
theorem dX2_begin_7 : decode cX2_begin 7 = .ok (.putfield 29, 3) := by decide +kernel
theorem dX2_begin_10 : decode cX2_begin 10 = .ok (.aload_n 0, 1) := by decide +kernel
theorem dX2_begin_11 : decode cX2_begin 11 = .ok (.iconst 0, 1) := by decide +kernel
theorem dX2_begin_12 : decode cX2_begin 12 = .ok (.putfield 32, 3) := by decide +kernel
theorem dX2_begin_15 : decode cX2_begin 15 = .ok (.iconst 0, 1) := by decide +kernel
theorem dX2_begin_16 : decode cX2_begin 16 = .ok (.istore_n 2, 1) := by decide +kernel
theorem dX2_begin_17 : decode cX2_begin 17 = .ok (.iload_n 2, 1) := by decide +kernel
theorem dX2_begin_18 : decode cX2_begin 18 = .ok (.aload_n 0, 1) := by decide +kernel
theorem dX2_begin_19 : decode cX2_begin 19 = .ok (.getfield 9, 3) := by decide +kernel
theorem dX2_begin_22 : decode cX2_begin 22 = .ok (.arraylength, 1) := by decide +kernel
theorem dX2_begin_23 : decode cX2_begin 23 = .ok (.if_icmp .ge 16, 3) := by decide +kernel
theorem dX2_begin_26 : decode cX2_begin 26 = .ok (.aload_n 0, 1) := by decide +kernel
theorem dX2_begin_27 : decode cX2_begin 27 = .ok (.getfield 9, 3) := by decide +kernel
theorem dX2_begin_30 : decode cX2_begin 30 = .ok (.iload_n 2, 1) := by decide +kernel
theorem dX2_begin_31 : decode cX2_begin 31 = .ok (.lconst 1, 1) := by decide +kernel
theorem dX2_begin_32 : decode cX2_begin 32 = .ok (.lastore, 1) := by decide +kernel
theorem dX2_begin_33 : decode cX2_begin 33 = .ok (.iinc 2 1, 3) := by decide +kernel
theorem dX2_begin_36 : decode cX2_begin 36 = .ok (.goto (-19), 3) := by decide +kernel
theorem dX2_begin_39 : decode cX2_begin 39 = .ok (.return_, 1) := by decide +kernel
theorem dX2_stepBack_0 : decode cX2_stepBack 0 = .ok (.aload_n 0, 1) := by decide +kernel
theorem dX2_stepBack_1 : decode cX2_stepBack 1 = .ok (.getfield 29, 3) := by decide +kernel
theorem dX2_stepBack_4 : decode cX2_stepBack 4 = .ok (.ifCond .gt 5, 3) := by decide +kernel
theorem dX2_stepBack_7 : decode cX2_stepBack 7 = .ok (.iconst 0, 1) := by decide +kernel
theorem dX2_stepBack_8 : decode cX2_stepBack 8 = .ok (.ireturn, 1) := by decide +kernel
theorem dX2_stepBack_9 : decode cX2_stepBack 9 = .ok (.aload_n 0, 1) := by decide +kernel
theorem dX2_stepBack_10 : decode cX2_stepBack 10 = .ok (.dup, 1) := by decide +kernel
theorem dX2_stepBack_11 : decode cX2_stepBack 11 = .ok (.getfield 29, 3) := by decide +kernel
theorem dX2_stepBack_14 : decode cX2_stepBack 14 = .ok (.iconst 1, 1) := by decide +kernel
theorem dX2_stepBack_15 : decode cX2_stepBack 15 = .ok (.isub, 1) := by decide +kernel
theorem dX2_stepBack_16 : decode cX2_stepBack 16 = .ok (.putfield 29, 3) := by decide +kernel
theorem dX2_stepBack_19 : decode cX2_stepBack 19 = .ok (.aload_n 0, 1) := by decide +kernel
theorem dX2_stepBack_20 : decode cX2_stepBack 20 = .ok (.getfield 9, 3) := by decide +kernel
theorem dX2_stepBack_23 : decode cX2_stepBack 23 = .ok (.aload_n 0, 1) := by decide +kernel
theorem dX2_stepBack_24 : decode cX2_stepBack 24 = .ok (.getfield 15, 3) := by decide +kernel
theorem dX2_stepBack_27 : decode cX2_stepBack 27 = .ok (.aload_n 0, 1) := by decide +kernel
theorem dX2_stepBack_28 : decode cX2_stepBack 28 = .ok (.getfield 29, 3) := by decide +kernel
theorem dX2_stepBack_31 : decode cX2_stepBack 31 = .ok (.iaload, 1) := by decide +kernel
theorem dX2_stepBack_32 : decode cX2_stepBack 32 = .ok (.aload_n 0, 1) := by decide +kernel
theorem dX2_stepBack_33 : decode cX2_stepBack 33 = .ok (.getfield 19, 3) := by decide +kernel
theorem dX2_stepBack_36 : decode cX2_stepBack 36 = .ok (.aload_n 0, 1) := by decide +kernel
theorem dX2_stepBack_37 : decode cX2_stepBack 37 = .ok (.getfield 29, 3) := by decide +kernel
theorem dX2_stepBack_40 : decode cX2_stepBack 40 = .ok (.laload, 1) := by decide +kernel
theorem dX2_stepBack_41 : decode cX2_stepBack 41 = .ok (.lastore, 1) := by decide +kernel
theorem dX2_stepBack_42 : decode cX2_stepBack 42 = .ok (.iconst 1, 1) := by decide +kernel
theorem dX2_stepBack_43 : decode cX2_stepBack 43 = .ok (.ireturn, 1) := by decide +kernel
theorem dX2_stepOn_0 : decode cX2_stepOn 0 = .ok (.aload_n 0, 1) := by decide +kernel
theorem dX2_stepOn_1 : decode cX2_stepOn 1 = .ok (.getfield 29, 3) := by decide +kernel
theorem dX2_stepOn_4 : decode cX2_stepOn 4 = .ok (.aload_n 0, 1) := by decide +kernel
theorem dX2_stepOn_5 : decode cX2_stepOn 5 = .ok (.getfield 32, 3) := by decide +kernel
theorem dX2_stepOn_8 : decode cX2_stepOn 8 = .ok (.if_icmp .lt 5, 3) := by decide +kernel
theorem dX2_stepOn_11 : decode cX2_stepOn 11 = .ok (.iconst 0, 1) := by decide +kernel
theorem dX2_stepOn_12 : decode cX2_stepOn 12 = .ok (.ireturn, 1) := by decide +kernel
theorem dX2_stepOn_13 : decode cX2_stepOn 13 = .ok (.aload_n 0, 1) := by decide +kernel
theorem dX2_stepOn_14 : decode cX2_stepOn 14 = .ok (.getfield 9, 3) := by decide +kernel
theorem dX2_stepOn_17 : decode cX2_stepOn 17 = .ok (.aload_n 0, 1) := by decide +kernel
theorem dX2_stepOn_18 : decode cX2_stepOn 18 = .ok (.getfield 15, 3) := by decide +kernel
theorem dX2_stepOn_21 : decode cX2_stepOn 21 = .ok (.aload_n 0, 1) := by decide +kernel
theorem dX2_stepOn_22 : decode cX2_stepOn 22 = .ok (.getfield 29, 3) := by decide +kernel
theorem dX2_stepOn_25 : decode cX2_stepOn 25 = .ok (.iaload, 1) := by decide +kernel
theorem dX2_stepOn_26 : decode cX2_stepOn 26 = .ok (.aload_n 0, 1) := by decide +kernel
theorem dX2_stepOn_27 : decode cX2_stepOn 27 = .ok (.getfield 22, 3) := by decide +kernel
theorem dX2_stepOn_30 : decode cX2_stepOn 30 = .ok (.aload_n 0, 1) := by decide +kernel
theorem dX2_stepOn_31 : decode cX2_stepOn 31 = .ok (.getfield 29, 3) := by decide +kernel
theorem dX2_stepOn_34 : decode cX2_stepOn 34 = .ok (.laload, 1) := by decide +kernel
theorem dX2_stepOn_35 : decode cX2_stepOn 35 = .ok (.lastore, 1) := by decide +kernel
theorem dX2_stepOn_36 : decode cX2_stepOn 36 = .ok (.aload_n 0, 1) := by decide +kernel
theorem dX2_stepOn_37 : decode cX2_stepOn 37 = .ok (.dup, 1) := by decide +kernel
theorem dX2_stepOn_38 : decode cX2_stepOn 38 = .ok (.getfield 29, 3) := by decide +kernel
theorem dX2_stepOn_41 : decode cX2_stepOn 41 = .ok (.iconst 1, 1) := by decide +kernel
theorem dX2_stepOn_42 : decode cX2_stepOn 42 = .ok (.iadd, 1) := by decide +kernel
theorem dX2_stepOn_43 : decode cX2_stepOn 43 = .ok (.putfield 29, 3) := by decide +kernel
theorem dX2_stepOn_46 : decode cX2_stepOn 46 = .ok (.iconst 1, 1) := by decide +kernel
theorem dX2_stepOn_47 : decode cX2_stepOn 47 = .ok (.ireturn, 1) := by decide +kernel
theorem dX6_clear_0 : decode cX6_clear 0 = .ok (.aload_n 0, 1) := by decide +kernel
theorem dX6_clear_1 : decode cX6_clear 1 = .ok (.iconst 0, 1) := by decide +kernel
theorem dX6_clear_2 : decode cX6_clear 2 = .ok (.putfield 33, 3) := by decide +kernel
theorem dX6_clear_5 : decode cX6_clear 5 = .ok (.aload_n 0, 1) := by decide +kernel
theorem dX6_clear_6 : decode cX6_clear 6 = .ok (.iconst 0, 1) := by decide +kernel
theorem dX6_clear_7 : decode cX6_clear 7 = .ok (.putfield 37, 3) := by decide +kernel
theorem dX6_clear_10 : decode cX6_clear 10 = .ok (.aload_n 0, 1) := by decide +kernel
theorem dX6_clear_11 : decode cX6_clear 11 = .ok (.iconst 0, 1) := by decide +kernel
theorem dX6_clear_12 : decode cX6_clear 12 = .ok (.putfield 40, 3) := by decide +kernel
theorem dX6_clear_15 : decode cX6_clear 15 = .ok (.aload_n 0, 1) := by decide +kernel
theorem dX6_clear_16 : decode cX6_clear 16 = .ok (.iconst 0, 1) := by decide +kernel
theorem dX6_clear_17 : decode cX6_clear 17 = .ok (.putfield 43, 3) := by decide +kernel
theorem dX6_clear_20 : decode cX6_clear 20 = .ok (.aload_n 0, 1) := by decide +kernel
theorem dX6_clear_21 : decode cX6_clear 21 = .ok (.iconst 0, 1) := by decide +kernel
theorem dX6_clear_22 : decode cX6_clear 22 = .ok (.putfield 46, 3) := by decide +kernel
theorem dX6_clear_25 : decode cX6_clear 25 = .ok (.aload_n 0, 1) := by decide +kernel
theorem dX6_clear_26 : decode cX6_clear 26 = .ok (.iconst 0, 1) := by decide +kernel
theorem dX6_clear_27 : decode cX6_clear 27 = .ok (.putfield 49, 3) := by decide +kernel
theorem dX6_clear_30 : decode cX6_clear 30 = .ok (.aload_n 0, 1) := by decide +kernel
theorem dX6_clear_31 : decode cX6_clear 31 = .ok (.iconst 0, 1) := by decide +kernel
theorem dX6_clear_32 : decode cX6_clear 32 = .ok (.putfield 52, 3) := by decide +kernel
theorem dX6_clear_35 : decode cX6_clear 35 = .ok (.return_, 1) := by decide +kernel
theorem dX6_whatAt_0 : decode cX6_whatAt 0 = .ok (.iload_n 1, 1) := by decide +kernel
theorem dX6_whatAt_1 : decode cX6_whatAt 1 = .ok (.ifCond .lt 23, 3) := by decide +kernel
theorem dX6_whatAt_4 : decode cX6_whatAt 4 = .ok (.iload_n 1, 1) := by decide +kernel
theorem dX6_whatAt_5 : decode cX6_whatAt 5 = .ok (.aload_n 0, 1) := by decide +kernel
theorem dX6_whatAt_6 : decode cX6_whatAt 6 = .ok (.getfield 52, 3) := by decide +kernel
theorem dX6_whatAt_9 : decode cX6_whatAt 9 = .ok (.if_icmp .ge 15, 3) := by decide +kernel
theorem dX6_whatAt_12 : decode cX6_whatAt 12 = .ok (.aload_n 0, 1) := by decide +kernel
theorem dX6_whatAt_13 : decode cX6_whatAt 13 = .ok (.getfield 27, 3) := by decide +kernel
theorem dX6_whatAt_16 : decode cX6_whatAt 16 = .ok (.iload_n 1, 1) := by decide +kernel
theorem dX6_whatAt_17 : decode cX6_whatAt 17 = .ok (.iaload, 1) := by decide +kernel
theorem dX6_whatAt_18 : decode cX6_whatAt 18 = .ok (.bipush 12, 2) := by decide +kernel
theorem dX6_whatAt_20 : decode cX6_whatAt 20 = .ok (.ishr, 1) := by decide +kernel
theorem dX6_whatAt_21 : decode cX6_whatAt 21 = .ok (.goto 4, 3) := by decide +kernel
theorem dX6_whatAt_24 : decode cX6_whatAt 24 = .ok (.iconst (-1), 1) := by decide +kernel
theorem dX6_whatAt_25 : decode cX6_whatAt 25 = .ok (.ireturn, 1) := by decide +kernel
theorem dX6_argumentAt_0 : decode cX6_argumentAt 0 = .ok (.iload_n 1, 1) := by decide +kernel
theorem dX6_argumentAt_1 : decode cX6_argumentAt 1 = .ok (.ifCond .lt 24, 3) := by decide +kernel
theorem dX6_argumentAt_4 : decode cX6_argumentAt 4 = .ok (.iload_n 1, 1) := by decide +kernel
theorem dX6_argumentAt_5 : decode cX6_argumentAt 5 = .ok (.aload_n 0, 1) := by decide +kernel
theorem dX6_argumentAt_6 : decode cX6_argumentAt 6 = .ok (.getfield 52, 3) := by decide +kernel
theorem dX6_argumentAt_9 : decode cX6_argumentAt 9 = .ok (.if_icmp .ge 16, 3) := by decide +kernel
theorem dX6_argumentAt_12 : decode cX6_argumentAt 12 = .ok (.aload_n 0, 1) := by decide +kernel
theorem dX6_argumentAt_13 : decode cX6_argumentAt 13 = .ok (.getfield 27, 3) := by decide +kernel
theorem dX6_argumentAt_16 : decode cX6_argumentAt 16 = .ok (.iload_n 1, 1) := by decide +kernel
theorem dX6_argumentAt_17 : decode cX6_argumentAt 17 = .ok (.iaload, 1) := by decide +kernel
theorem dX6_argumentAt_18 : decode cX6_argumentAt 18 = .ok (.sipush 4095, 3) := by decide +kernel
theorem dX6_argumentAt_21 : decode cX6_argumentAt 21 = .ok (.iand, 1) := by decide +kernel
theorem dX6_argumentAt_22 : decode cX6_argumentAt 22 = .ok (.goto 4, 3) := by decide +kernel
theorem dX6_argumentAt_25 : decode cX6_argumentAt 25 = .ok (.iconst 0, 1) := by decide +kernel
theorem dX6_argumentAt_26 : decode cX6_argumentAt 26 = .ok (.ireturn, 1) := by decide +kernel
theorem dX5_faultKind_0 : decode cX5_faultKind 0 = .ok (.aload_n 0, 1) := by decide +kernel
theorem dX5_faultKind_1 : decode cX5_faultKind 1 = .ok (.getfield 22, 3) := by decide +kernel
theorem dX5_faultKind_4 : decode cX5_faultKind 4 = .ok (.ireturn, 1) := by decide +kernel
theorem dX5_faultPlace_0 : decode cX5_faultPlace 0 = .ok (.aload_n 0, 1) := by decide +kernel
theorem dX5_faultPlace_1 : decode cX5_faultPlace 1 = .ok (.getfield 18, 3) := by decide +kernel
theorem dX5_faultPlace_4 : decode cX5_faultPlace 4 = .ok (.ireturn, 1) := by decide +kernel
theorem dX10_kindAt_0 : decode cX10_kindAt 0 = .ok (.iload_n 1, 1) := by decide +kernel
theorem dX10_kindAt_1 : decode cX10_kindAt 1 = .ok (.ifCond .lt 20, 3) := by decide +kernel
theorem dX10_kindAt_4 : decode cX10_kindAt 4 = .ok (.iload_n 1, 1) := by decide +kernel
theorem dX10_kindAt_5 : decode cX10_kindAt 5 = .ok (.aload_n 0, 1) := by decide +kernel
theorem dX10_kindAt_6 : decode cX10_kindAt 6 = .ok (.getfield 41, 3) := by decide +kernel
theorem dX10_kindAt_9 : decode cX10_kindAt 9 = .ok (.if_icmp .ge 12, 3) := by decide +kernel
theorem dX10_kindAt_12 : decode cX10_kindAt 12 = .ok (.aload_n 0, 1) := by decide +kernel
theorem dX10_kindAt_13 : decode cX10_kindAt 13 = .ok (.getfield 15, 3) := by decide +kernel
theorem dX10_kindAt_16 : decode cX10_kindAt 16 = .ok (.iload_n 1, 1) := by decide +kernel
theorem dX10_kindAt_17 : decode cX10_kindAt 17 = .ok (.iaload, 1) := by decide +kernel
theorem dX10_kindAt_18 : decode cX10_kindAt 18 = .ok (.goto 6, 3) := by decide +kernel
theorem dX10_kindAt_21 : decode cX10_kindAt 21 = .ok (.sipush 256, 3) := by decide +kernel
theorem dX10_kindAt_24 : decode cX10_kindAt 24 = .ok (.ireturn, 1) := by decide +kernel
def v_c_Tape_forget : List Cond := .code yX8_forget cX8_forget 1 none :: ([.fieldLink RX8 28 "SlopeRunner$Tape" "state" "I", .fieldLink RX8 38 "SlopeRunner$Tape" "inputs" "I", .fieldLink RX8 41 "SlopeRunner$Tape" "firstStep" "I", .fieldLink RX8 44 "SlopeRunner$Tape" "size" "I", .fieldLink RX8 47 "SlopeRunner$Tape" "steps" "I", .fieldLink RX8 50 "SlopeRunner$Tape" "results" "I", .fieldLink RX8 53 "SlopeRunner$Tape" "edges" "I", .fieldLink RX8 34 "SlopeRunner$Tape" "nearest" "J"] ++ wsX80)
set_option maxHeartbeats 4000000 in
set_option maxRecDepth 100000 in
theorem c_Tape_forget (l : Launch) (D : va_G) (y : Nat → ClassId) (sz : Nat) (h0 a0 a1 a2 a3 a4 : Nat) (st ni fs sz0 sp nr ed : Int32) (nn : Int64) : Met l yX8_forget v_c_Tape_forget ({ frames := 0, cells := 0, slots := 0, locals := 0 } : Room) (va_Pc [.ref h0] (xPre D (xT y) [(h0, .inr (7, [.ref a0, .ref a1, .ref a2, .ref a3, .ref a4, .int st, .int ni, .int fs, .int sz0, .int sp, .int nr, .int ed, .long nn]))] sz)) (va_Qv (fun (_ : Unit) => True) (fun (u : Unit) => xB D (xT y) (va_A [(h0, .inr (7, [.ref a0, .ref a1, .ref a2, .ref a3, .ref a4, .int st, .int ni, .int fs, .int sz0, .int sp, .int nr, .int ed, .long nn]))] sz) [(h0, .inr (7, [.ref a0, .ref a1, .ref a2, .ref a3, .ref a4, .int (-1), .int 0, .int 0, .int 0, .int 0, .int 0, .int 0, .long 0]))]) (va_A [(h0, .inr (7, [.ref a0, .ref a1, .ref a2, .ref a3, .ref a4, .int st, .int ni, .int fs, .int sz0, .int sp, .int nr, .int ed, .long nn]))] sz)) 0 0 (va_A [(h0, .inr (7, [.ref a0, .ref a1, .ref a2, .ref a3, .ref a4, .int st, .int ni, .int fs, .int sz0, .int sp, .int nr, .int ed, .long nn]))] sz) := by
  refine x_metv (cc := cX8_forget) (maxL := 1) (by decide) rfl (Nat.le_of_ble_eq_true rfl) ?_
  intro p e s m below meth c A H locs Q hx hb hml hown hts hr hlocks hmn hA hP hK hD hS ls hl hQ
  have hl : lv_has ls 1 [(0, .ref h0)] := hl
  have fl28 := hts (.fieldLink RX8 28 "SlopeRunner$Tape" "state" "I") (by decide +kernel)
  have inX8 : ∀ w ∈ wsX80, w ∈ v_c_Tape_forget := (fun w h => List.mem_cons_of_mem _ (List.mem_append_right _ h))
  have fl38 := hts (.fieldLink RX8 38 "SlopeRunner$Tape" "inputs" "I") (by decide +kernel)
  have fl41 := hts (.fieldLink RX8 41 "SlopeRunner$Tape" "firstStep" "I") (by decide +kernel)
  have fl44 := hts (.fieldLink RX8 44 "SlopeRunner$Tape" "size" "I") (by decide +kernel)
  have fl47 := hts (.fieldLink RX8 47 "SlopeRunner$Tape" "steps" "I") (by decide +kernel)
  have fl50 := hts (.fieldLink RX8 50 "SlopeRunner$Tape" "results" "I") (by decide +kernel)
  have fl53 := hts (.fieldLink RX8 53 "SlopeRunner$Tape" "edges" "I") (by decide +kernel)
  have fl34 := hts (.fieldLink RX8 34 "SlopeRunner$Tape" "nearest" "J") (by decide +kernel)
  refine lv_aload_n hx hb dX8_forget_0 rfl (lv_at hl 0 rfl) ?_
  refine lv_iconst (v := (-1)) hx hb dX8_forget_1 (by decide) ?_
  refine va_put (D := D) (ci := 7) (v := .int (-1)) (ty := .int) (C := RX8) (T := TX8) (N := 13) hx hb hts inX8 tyX8 tyX8_ok nmX8 hown hK hP hD hS 0 rfl rfl 5 (by decide) fl28 (fun _ h9 => h9) rfl (by decide +kernel) rfl rfl (Nat.le_of_ble_eq_true rfl) dX8_forget_2 (fun H locs hP hD hS => ?_)
  have hP : va_P D vwCl [(h0, .inr (7, [.ref a0, .ref a1, .ref a2, .ref a3, .ref a4, .int (-1), .int ni, .int fs, .int sz0, .int sp, .int nr, .int ed, .long nn]))] H := hP
  have hD : va_D A [(h0, .inr (7, [.ref a0, .ref a1, .ref a2, .ref a3, .ref a4, .int (-1), .int ni, .int fs, .int sz0, .int sp, .int nr, .int ed, .long nn]))] := hD
  refine lv_aload_n hx hb dX8_forget_5 rfl (lv_at hl 0 rfl) ?_
  refine lv_iconst (v := 0) hx hb dX8_forget_6 (by decide) ?_
  refine va_put (D := D) (ci := 7) (v := .int 0) (ty := .int) (C := RX8) (T := TX8) (N := 13) hx hb hts inX8 tyX8 tyX8_ok nmX8 hown hK hP hD hS 0 rfl rfl 6 (by decide) fl38 (fun _ h9 => h9) rfl (by decide +kernel) rfl rfl (Nat.le_of_ble_eq_true rfl) dX8_forget_7 (fun H locs hP hD hS => ?_)
  have hP : va_P D vwCl [(h0, .inr (7, [.ref a0, .ref a1, .ref a2, .ref a3, .ref a4, .int (-1), .int 0, .int fs, .int sz0, .int sp, .int nr, .int ed, .long nn]))] H := hP
  have hD : va_D A [(h0, .inr (7, [.ref a0, .ref a1, .ref a2, .ref a3, .ref a4, .int (-1), .int 0, .int fs, .int sz0, .int sp, .int nr, .int ed, .long nn]))] := hD
  refine lv_aload_n hx hb dX8_forget_10 rfl (lv_at hl 0 rfl) ?_
  refine lv_iconst (v := 0) hx hb dX8_forget_11 (by decide) ?_
  refine va_put (D := D) (ci := 7) (v := .int 0) (ty := .int) (C := RX8) (T := TX8) (N := 13) hx hb hts inX8 tyX8 tyX8_ok nmX8 hown hK hP hD hS 0 rfl rfl 7 (by decide) fl41 (fun _ h9 => h9) rfl (by decide +kernel) rfl rfl (Nat.le_of_ble_eq_true rfl) dX8_forget_12 (fun H locs hP hD hS => ?_)
  have hP : va_P D vwCl [(h0, .inr (7, [.ref a0, .ref a1, .ref a2, .ref a3, .ref a4, .int (-1), .int 0, .int 0, .int sz0, .int sp, .int nr, .int ed, .long nn]))] H := hP
  have hD : va_D A [(h0, .inr (7, [.ref a0, .ref a1, .ref a2, .ref a3, .ref a4, .int (-1), .int 0, .int 0, .int sz0, .int sp, .int nr, .int ed, .long nn]))] := hD
  refine lv_aload_n hx hb dX8_forget_15 rfl (lv_at hl 0 rfl) ?_
  refine lv_iconst (v := 0) hx hb dX8_forget_16 (by decide) ?_
  refine va_put (D := D) (ci := 7) (v := .int 0) (ty := .int) (C := RX8) (T := TX8) (N := 13) hx hb hts inX8 tyX8 tyX8_ok nmX8 hown hK hP hD hS 0 rfl rfl 8 (by decide) fl44 (fun _ h9 => h9) rfl (by decide +kernel) rfl rfl (Nat.le_of_ble_eq_true rfl) dX8_forget_17 (fun H locs hP hD hS => ?_)
  have hP : va_P D vwCl [(h0, .inr (7, [.ref a0, .ref a1, .ref a2, .ref a3, .ref a4, .int (-1), .int 0, .int 0, .int 0, .int sp, .int nr, .int ed, .long nn]))] H := hP
  have hD : va_D A [(h0, .inr (7, [.ref a0, .ref a1, .ref a2, .ref a3, .ref a4, .int (-1), .int 0, .int 0, .int 0, .int sp, .int nr, .int ed, .long nn]))] := hD
  refine lv_aload_n hx hb dX8_forget_20 rfl (lv_at hl 0 rfl) ?_
  refine lv_iconst (v := 0) hx hb dX8_forget_21 (by decide) ?_
  refine va_put (D := D) (ci := 7) (v := .int 0) (ty := .int) (C := RX8) (T := TX8) (N := 13) hx hb hts inX8 tyX8 tyX8_ok nmX8 hown hK hP hD hS 0 rfl rfl 9 (by decide) fl47 (fun _ h9 => h9) rfl (by decide +kernel) rfl rfl (Nat.le_of_ble_eq_true rfl) dX8_forget_22 (fun H locs hP hD hS => ?_)
  have hP : va_P D vwCl [(h0, .inr (7, [.ref a0, .ref a1, .ref a2, .ref a3, .ref a4, .int (-1), .int 0, .int 0, .int 0, .int 0, .int nr, .int ed, .long nn]))] H := hP
  have hD : va_D A [(h0, .inr (7, [.ref a0, .ref a1, .ref a2, .ref a3, .ref a4, .int (-1), .int 0, .int 0, .int 0, .int 0, .int nr, .int ed, .long nn]))] := hD
  refine lv_aload_n hx hb dX8_forget_25 rfl (lv_at hl 0 rfl) ?_
  refine lv_iconst (v := 0) hx hb dX8_forget_26 (by decide) ?_
  refine va_put (D := D) (ci := 7) (v := .int 0) (ty := .int) (C := RX8) (T := TX8) (N := 13) hx hb hts inX8 tyX8 tyX8_ok nmX8 hown hK hP hD hS 0 rfl rfl 10 (by decide) fl50 (fun _ h9 => h9) rfl (by decide +kernel) rfl rfl (Nat.le_of_ble_eq_true rfl) dX8_forget_27 (fun H locs hP hD hS => ?_)
  have hP : va_P D vwCl [(h0, .inr (7, [.ref a0, .ref a1, .ref a2, .ref a3, .ref a4, .int (-1), .int 0, .int 0, .int 0, .int 0, .int 0, .int ed, .long nn]))] H := hP
  have hD : va_D A [(h0, .inr (7, [.ref a0, .ref a1, .ref a2, .ref a3, .ref a4, .int (-1), .int 0, .int 0, .int 0, .int 0, .int 0, .int ed, .long nn]))] := hD
  refine lv_aload_n hx hb dX8_forget_30 rfl (lv_at hl 0 rfl) ?_
  refine lv_iconst (v := 0) hx hb dX8_forget_31 (by decide) ?_
  refine va_put (D := D) (ci := 7) (v := .int 0) (ty := .int) (C := RX8) (T := TX8) (N := 13) hx hb hts inX8 tyX8 tyX8_ok nmX8 hown hK hP hD hS 0 rfl rfl 11 (by decide) fl53 (fun _ h9 => h9) rfl (by decide +kernel) rfl rfl (Nat.le_of_ble_eq_true rfl) dX8_forget_32 (fun H locs hP hD hS => ?_)
  have hP : va_P D vwCl [(h0, .inr (7, [.ref a0, .ref a1, .ref a2, .ref a3, .ref a4, .int (-1), .int 0, .int 0, .int 0, .int 0, .int 0, .int 0, .long nn]))] H := hP
  have hD : va_D A [(h0, .inr (7, [.ref a0, .ref a1, .ref a2, .ref a3, .ref a4, .int (-1), .int 0, .int 0, .int 0, .int 0, .int 0, .int 0, .long nn]))] := hD
  refine lv_aload_n hx hb dX8_forget_35 rfl (lv_at hl 0 rfl) ?_
  refine lv_lconst (v := 0) hx hb dX8_forget_36 (by decide) ?_
  refine va_put (D := D) (ci := 7) (v := .long 0) (ty := .long) (C := RX8) (T := TX8) (N := 13) hx hb hts inX8 tyX8 tyX8_ok nmX8 hown hK hP hD hS 0 rfl rfl 12 (by decide) fl34 (fun _ h9 => h9) rfl (by decide +kernel) rfl rfl (Nat.le_of_ble_eq_true rfl) dX8_forget_37 (fun H locs hP hD hS => ?_)
  have hP : va_P D vwCl [(h0, .inr (7, [.ref a0, .ref a1, .ref a2, .ref a3, .ref a4, .int (-1), .int 0, .int 0, .int 0, .int 0, .int 0, .int 0, .long 0]))] H := hP
  have hD : va_D A [(h0, .inr (7, [.ref a0, .ref a1, .ref a2, .ref a3, .ref a4, .int (-1), .int 0, .int 0, .int 0, .int 0, .int 0, .int 0, .long 0]))] := hD
  exact x_vret (u := ()) hx hb hr trivial hP hD hK hS [0] rfl (by decide) dX8_forget_40 hlocks hQ

def v_c_Tape_zeroAt : List Cond := .code yX8_zeroAt cX8_zeroAt 1 (some .int) :: ([.fieldLink RX8 38 "SlopeRunner$Tape" "inputs" "I"] ++ wsX80)
set_option maxHeartbeats 4000000 in
set_option maxRecDepth 100000 in
theorem c_Tape_zeroAt (l : Launch) (D : va_G) (y : Nat → ClassId) (sz : Nat) (h0 a0 a1 a2 a3 a4 : Nat) (st ni fs sz0 sp nr ed : Int32) (nn : Int64) : Met l yX8_zeroAt v_c_Tape_zeroAt ({ frames := 0, cells := 0, slots := 0, locals := 0 } : Room) (va_Pc [.ref h0] (xPre D (xT y) [(h0, .inr (7, [.ref a0, .ref a1, .ref a2, .ref a3, .ref a4, .int st, .int ni, .int fs, .int sz0, .int sp, .int nr, .int ed, .long nn]))] sz)) (va_Qi (fun (r : Int32) (_ : Unit) => r = ni) (fun (u : Unit) => xB D (xT y) (va_A [(h0, .inr (7, [.ref a0, .ref a1, .ref a2, .ref a3, .ref a4, .int st, .int ni, .int fs, .int sz0, .int sp, .int nr, .int ed, .long nn]))] sz) [(h0, .inr (7, [.ref a0, .ref a1, .ref a2, .ref a3, .ref a4, .int st, .int ni, .int fs, .int sz0, .int sp, .int nr, .int ed, .long nn]))]) (va_A [(h0, .inr (7, [.ref a0, .ref a1, .ref a2, .ref a3, .ref a4, .int st, .int ni, .int fs, .int sz0, .int sp, .int nr, .int ed, .long nn]))] sz)) 0 0 (va_A [(h0, .inr (7, [.ref a0, .ref a1, .ref a2, .ref a3, .ref a4, .int st, .int ni, .int fs, .int sz0, .int sp, .int nr, .int ed, .long nn]))] sz) := by
  refine x_meti (cc := cX8_zeroAt) (maxL := 1) (by decide) rfl (Nat.le_of_ble_eq_true rfl) ?_
  intro p e s m below meth c A H locs Q hx hb hml hown hts hr hlocks hmn hA hP hK hD hS ls hl hQ
  have hl : lv_has ls 1 [(0, .ref h0)] := hl
  have fl38 := hts (.fieldLink RX8 38 "SlopeRunner$Tape" "inputs" "I") (by decide +kernel)
  have inX8 : ∀ w ∈ wsX80, w ∈ v_c_Tape_zeroAt := (fun w h => List.mem_cons_of_mem _ (List.mem_append_right _ h))
  refine lv_aload_n hx hb dX8_zeroAt_0 rfl (lv_at hl 0 rfl) ?_
  refine va_get (D := D) (ci := 7) (v := .int ni) (C := RX8) (T := TX8) (N := 13) hx hb hts inX8 hown hK hP 0 rfl rfl 6 (by decide) fl38 (fun _ h9 => h9) rfl dX8_zeroAt_1 ?_
  exact x_iret (v := ni) (u := ()) hx hb hr rfl hP hD hK hS [0] rfl (by decide) dX8_zeroAt_4 hlocks hQ

def v_c_Tape_hasResult : List Cond := .code yX8_hasResult cX8_hasResult 2 (some .boolean) :: ([.fieldLink RX8 50 "SlopeRunner$Tape" "results" "I"] ++ wsX80)
set_option maxHeartbeats 4000000 in
set_option maxRecDepth 100000 in
theorem c_Tape_hasResult (l : Launch) (D : va_G) (y : Nat → ClassId) (sz : Nat) (h0 a0 a1 a2 a3 a4 : Nat) (st ni fs sz0 sp nr ed : Int32) (nn : Int64) (k : Int32) : Met l yX8_hasResult v_c_Tape_hasResult ({ frames := 0, cells := 0, slots := 0, locals := 0 } : Room) (va_Pc [.ref h0, .int k] (xPre D (xT y) [(h0, .inr (7, [.ref a0, .ref a1, .ref a2, .ref a3, .ref a4, .int st, .int ni, .int fs, .int sz0, .int sp, .int nr, .int ed, .long nn]))] sz)) (va_Qi (fun (r : Int32) (_ : Unit) => (r = 1 ∧ 0 ≤ k.toInt ∧ k.toInt < nr.toInt) ∨ (r = 0 ∧ (k.toInt < 0 ∨ nr.toInt ≤ k.toInt))) (fun (u : Unit) => xB D (xT y) (va_A [(h0, .inr (7, [.ref a0, .ref a1, .ref a2, .ref a3, .ref a4, .int st, .int ni, .int fs, .int sz0, .int sp, .int nr, .int ed, .long nn]))] sz) [(h0, .inr (7, [.ref a0, .ref a1, .ref a2, .ref a3, .ref a4, .int st, .int ni, .int fs, .int sz0, .int sp, .int nr, .int ed, .long nn]))]) (va_A [(h0, .inr (7, [.ref a0, .ref a1, .ref a2, .ref a3, .ref a4, .int st, .int ni, .int fs, .int sz0, .int sp, .int nr, .int ed, .long nn]))] sz)) 0 0 (va_A [(h0, .inr (7, [.ref a0, .ref a1, .ref a2, .ref a3, .ref a4, .int st, .int ni, .int fs, .int sz0, .int sp, .int nr, .int ed, .long nn]))] sz) := by
  refine x_meti (cc := cX8_hasResult) (maxL := 2) (by decide) rfl (Nat.le_of_ble_eq_true rfl) ?_
  intro p e s m below meth c A H locs Q hx hb hml hown hts hr hlocks hmn hA hP hK hD hS ls hl hQ
  have hl : lv_has ls 2 [(0, .ref h0), (1, .int k)] := hl
  have fl50 := hts (.fieldLink RX8 50 "SlopeRunner$Tape" "results" "I") (by decide +kernel)
  have inX8 : ∀ w ∈ wsX80, w ∈ v_c_Tape_hasResult := (fun w h => List.mem_cons_of_mem _ (List.mem_append_right _ h))
  refine lv_iload_n hx hb dX8_hasResult_0 rfl (lv_at hl 1 rfl) ?_
  refine lv_if_lt (tgt := 16) hx hb dX8_hasResult_1 (by decide) (fun c_1 => ?_) (fun c_1 => ?_)
  · refine lv_iconst (v := 0) hx hb dX8_hasResult_16 (by decide) ?_
    exact x_zret (v := 0) (u := ()) hx hb hr rfl (by first | exact Or.inl ⟨rfl, (by (try dsimp only); (try simp only [lg_cmp_lt, lg_cmp_le, lg_cmp_gt, lg_cmp_ge] at *); (try simp only [x_lt, x_le, Int32.reduceToInt, x_ltL, x_leL, Int64.reduceToInt] at *); omega), (by (try dsimp only); (try simp only [lg_cmp_lt, lg_cmp_le, lg_cmp_gt, lg_cmp_ge] at *); (try simp only [x_lt, x_le, Int32.reduceToInt, x_ltL, x_leL, Int64.reduceToInt] at *); omega)⟩ | exact Or.inr ⟨rfl, (by (try dsimp only); (try simp only [lg_cmp_lt, lg_cmp_le, lg_cmp_gt, lg_cmp_ge] at *); (try simp only [x_lt, x_le, Int32.reduceToInt, x_ltL, x_leL, Int64.reduceToInt] at *); omega)⟩) hP hD hK hS [0] rfl (by decide) dX8_hasResult_17 hlocks hQ
  · refine lv_iload_n hx hb dX8_hasResult_4 rfl (lv_at hl 1 rfl) ?_
    refine lv_aload_n hx hb dX8_hasResult_5 rfl (lv_at hl 0 rfl) ?_
    refine va_get (D := D) (ci := 7) (v := .int nr) (C := RX8) (T := TX8) (N := 13) hx hb hts inX8 hown hK hP 0 rfl rfl 10 (by decide) fl50 (fun _ h9 => h9) rfl dX8_hasResult_6 ?_
    refine lv_icmp_ge (tgt := 16) hx hb dX8_hasResult_9 (by decide) (fun c_2 => ?_) (fun c_2 => ?_)
    · refine lv_iconst (v := 0) hx hb dX8_hasResult_16 (by decide) ?_
      exact x_zret (v := 0) (u := ()) hx hb hr rfl (by first | exact Or.inl ⟨rfl, (by (try dsimp only); (try simp only [lg_cmp_lt, lg_cmp_le, lg_cmp_gt, lg_cmp_ge] at *); (try simp only [x_lt, x_le, Int32.reduceToInt, x_ltL, x_leL, Int64.reduceToInt] at *); omega), (by (try dsimp only); (try simp only [lg_cmp_lt, lg_cmp_le, lg_cmp_gt, lg_cmp_ge] at *); (try simp only [x_lt, x_le, Int32.reduceToInt, x_ltL, x_leL, Int64.reduceToInt] at *); omega)⟩ | exact Or.inr ⟨rfl, (by (try dsimp only); (try simp only [lg_cmp_lt, lg_cmp_le, lg_cmp_gt, lg_cmp_ge] at *); (try simp only [x_lt, x_le, Int32.reduceToInt, x_ltL, x_leL, Int64.reduceToInt] at *); omega)⟩) hP hD hK hS [0] rfl (by decide) dX8_hasResult_17 hlocks hQ
    · refine lv_iconst (v := 1) hx hb dX8_hasResult_12 (by decide) ?_
      refine lv_goto (tgt := 17) hx hb dX8_hasResult_13 (by decide) ?_
      exact x_zret (v := 1) (u := ()) hx hb hr rfl (by first | exact Or.inl ⟨rfl, (by (try dsimp only); (try simp only [lg_cmp_lt, lg_cmp_le, lg_cmp_gt, lg_cmp_ge] at *); (try simp only [x_lt, x_le, Int32.reduceToInt, x_ltL, x_leL, Int64.reduceToInt] at *); omega), (by (try dsimp only); (try simp only [lg_cmp_lt, lg_cmp_le, lg_cmp_gt, lg_cmp_ge] at *); (try simp only [x_lt, x_le, Int32.reduceToInt, x_ltL, x_leL, Int64.reduceToInt] at *); omega)⟩ | exact Or.inr ⟨rfl, (by (try dsimp only); (try simp only [lg_cmp_lt, lg_cmp_le, lg_cmp_gt, lg_cmp_ge] at *); (try simp only [x_lt, x_le, Int32.reduceToInt, x_ltL, x_leL, Int64.reduceToInt] at *); omega)⟩) hP hD hK hS [0] rfl (by decide) dX8_hasResult_17 hlocks hQ

def v_c_Tape_hasBoth : List Cond := .code yX8_hasBoth cX8_hasBoth 3 (some .boolean) :: ([.fieldLink RX8 38 "SlopeRunner$Tape" "inputs" "I"] ++ ((wsV RX8 76 RX8 yX8_hasResult v_c_Tape_hasResult) ++ wsX80))
theorem g_c_Tape_hasBoth_0 : GoodIn v_c_Tape_hasBoth (wsV RX8 76 RX8 yX8_hasResult v_c_Tape_hasResult) := goodIn_sub (fun w h => List.mem_cons_of_mem _ (List.mem_append_right _ (List.mem_append_left _ h))) (by decide +kernel)
set_option maxHeartbeats 4000000 in
set_option maxRecDepth 100000 in
theorem c_Tape_hasBoth (l : Launch) (D : va_G) (y : Nat → ClassId) (sz : Nat) (h0 a0 a1 a2 a3 a4 : Nat) (st ni fs sz0 sp nr ed : Int32) (nn : Int64) (k i : Int32) : Met l yX8_hasBoth v_c_Tape_hasBoth ({ frames := 1, cells := 0, slots := 0, locals := 21 } : Room) (va_Pc [.ref h0, .int k, .int i] (xPre D (xT y) [(h0, .inr (7, [.ref a0, .ref a1, .ref a2, .ref a3, .ref a4, .int st, .int ni, .int fs, .int sz0, .int sp, .int nr, .int ed, .long nn]))] sz)) (va_Qi (fun (r : Int32) (_ : Unit) => (r = 1 ∧ (0 ≤ k.toInt ∧ k.toInt < nr.toInt) ∧ 0 ≤ i.toInt ∧ i.toInt < ni.toInt) ∨ (r = 0 ∧ ((k.toInt < 0 ∨ nr.toInt ≤ k.toInt) ∨ i.toInt < 0 ∨ ni.toInt ≤ i.toInt))) (fun (u : Unit) => xB D (xT y) (va_A [(h0, .inr (7, [.ref a0, .ref a1, .ref a2, .ref a3, .ref a4, .int st, .int ni, .int fs, .int sz0, .int sp, .int nr, .int ed, .long nn]))] sz) [(h0, .inr (7, [.ref a0, .ref a1, .ref a2, .ref a3, .ref a4, .int st, .int ni, .int fs, .int sz0, .int sp, .int nr, .int ed, .long nn]))]) (va_A [(h0, .inr (7, [.ref a0, .ref a1, .ref a2, .ref a3, .ref a4, .int st, .int ni, .int fs, .int sz0, .int sp, .int nr, .int ed, .long nn]))] sz)) 0 0 (va_A [(h0, .inr (7, [.ref a0, .ref a1, .ref a2, .ref a3, .ref a4, .int st, .int ni, .int fs, .int sz0, .int sp, .int nr, .int ed, .long nn]))] sz) := by
  refine x_meti (cc := cX8_hasBoth) (maxL := 3) (by decide) rfl (Nat.le_of_ble_eq_true rfl) ?_
  intro p e s m below meth c A H locs Q hx hb hml hown hts hr hlocks hmn hA hP hK hD hS ls hl hQ
  have hl : lv_has ls 3 [(0, .ref h0), (1, .int k), (2, .int i)] := hl
  have fl38 := hts (.fieldLink RX8 38 "SlopeRunner$Tape" "inputs" "I") (by decide +kernel)
  have inX8 : ∀ w ∈ wsX80, w ∈ v_c_Tape_hasBoth := (fun w h => List.mem_cons_of_mem _ (List.mem_append_right _ (List.mem_append_right _ h)))
  refine lv_aload_n hx hb dX8_hasBoth_0 rfl (lv_at hl 0 rfl) ?_
  refine lv_iload_n hx hb dX8_hasBoth_1 rfl (lv_at hl 1 rfl) ?_
  refine x_calli (w1 := fun (u : Unit) => [(h0, .inr (7, [.ref a0, .ref a1, .ref a2, .ref a3, .ref a4, .int st, .int ni, .int fs, .int sz0, .int sp, .int nr, .int ed, .long nn]))]) (wr := []) (ws' := fun (u : Unit) => [(h0, .inr (7, [.ref a0, .ref a1, .ref a2, .ref a3, .ref a4, .int st, .int ni, .int fs, .int sz0, .int sp, .int nr, .int ed, .long nn]))]) (va_runV (As := [.int k]) (rest := []) ⟨hx, hb, hml, hown, hts⟩ (c_Tape_hasResult l D y H.size h0 a0 a1 a2 a3 a4 st ni fs sz0 sp nr ed nn k) (cwV 1 hts g_c_Tape_hasBoth_0 rfl rfl rfl (by decide +kernel) ⟨Nat.le_of_ble_eq_true rfl, Nat.le_of_ble_eq_true rfl⟩) (x_preV (q := (RX8, TX8, 13)) hK (x_subP hP [0] rfl) (x_subD hD [0] rfl (by decide)) (ci := 7) (q0 := 0) rfl rfl) rfl rfl hl.1 rfl (lv_room (Nat.le_of_ble_eq_true rfl)) dX8_hasBoth_2 ⟨Nat.le_of_ble_eq_true rfl, Nat.le_of_ble_eq_true rfl⟩) hP hD hS hA [0] [] rfl rfl (by decide) (by decide) [0] (fun _ => rfl) (by decide) (fun r_1 u H locs hw hP hD hS => ?_)
  try dsimp only at hw
  have hP : va_P D vwCl [(h0, .inr (7, [.ref a0, .ref a1, .ref a2, .ref a3, .ref a4, .int st, .int ni, .int fs, .int sz0, .int sp, .int nr, .int ed, .long nn]))] H := hP
  have hD : va_D A [(h0, .inr (7, [.ref a0, .ref a1, .ref a2, .ref a3, .ref a4, .int st, .int ni, .int fs, .int sz0, .int sp, .int nr, .int ed, .long nn]))] := hD
  rcases hw with ⟨rfl, g_2⟩ | ⟨rfl, g_2⟩
  · refine lv_if_eq (tgt := 24) hx hb dX8_hasBoth_5 (by decide) (fun c_3 => ?_) (fun c_3 => ?_)
    · exact absurd c_3 (by decide)
    · refine lv_iload_n hx hb dX8_hasBoth_8 rfl (lv_at hl 2 rfl) ?_
      refine lv_if_lt (tgt := 24) hx hb dX8_hasBoth_9 (by decide) (fun c_4 => ?_) (fun c_4 => ?_)
      · refine lv_iconst (v := 0) hx hb dX8_hasBoth_24 (by decide) ?_
        exact x_zret (v := 0) (u := ()) hx hb hr rfl (by first | exact Or.inl ⟨rfl, (by (try dsimp only); (try simp only [lg_cmp_lt, lg_cmp_le, lg_cmp_gt, lg_cmp_ge] at *); (try simp only [x_lt, x_le, Int32.reduceToInt, x_ltL, x_leL, Int64.reduceToInt] at *); omega), (by (try dsimp only); (try simp only [lg_cmp_lt, lg_cmp_le, lg_cmp_gt, lg_cmp_ge] at *); (try simp only [x_lt, x_le, Int32.reduceToInt, x_ltL, x_leL, Int64.reduceToInt] at *); omega), (by (try dsimp only); (try simp only [lg_cmp_lt, lg_cmp_le, lg_cmp_gt, lg_cmp_ge] at *); (try simp only [x_lt, x_le, Int32.reduceToInt, x_ltL, x_leL, Int64.reduceToInt] at *); omega)⟩ | exact Or.inr ⟨rfl, (by (try dsimp only); (try simp only [lg_cmp_lt, lg_cmp_le, lg_cmp_gt, lg_cmp_ge] at *); (try simp only [x_lt, x_le, Int32.reduceToInt, x_ltL, x_leL, Int64.reduceToInt] at *); omega)⟩) hP hD hK hS [0] rfl (by decide) dX8_hasBoth_25 hlocks hQ
      · refine lv_iload_n hx hb dX8_hasBoth_12 rfl (lv_at hl 2 rfl) ?_
        refine lv_aload_n hx hb dX8_hasBoth_13 rfl (lv_at hl 0 rfl) ?_
        refine va_get (D := D) (ci := 7) (v := .int ni) (C := RX8) (T := TX8) (N := 13) hx hb hts inX8 hown hK hP 0 rfl rfl 6 (by decide) fl38 (fun _ h9 => h9) rfl dX8_hasBoth_14 ?_
        refine lv_icmp_ge (tgt := 24) hx hb dX8_hasBoth_17 (by decide) (fun c_5 => ?_) (fun c_5 => ?_)
        · refine lv_iconst (v := 0) hx hb dX8_hasBoth_24 (by decide) ?_
          exact x_zret (v := 0) (u := ()) hx hb hr rfl (by first | exact Or.inl ⟨rfl, (by (try dsimp only); (try simp only [lg_cmp_lt, lg_cmp_le, lg_cmp_gt, lg_cmp_ge] at *); (try simp only [x_lt, x_le, Int32.reduceToInt, x_ltL, x_leL, Int64.reduceToInt] at *); omega), (by (try dsimp only); (try simp only [lg_cmp_lt, lg_cmp_le, lg_cmp_gt, lg_cmp_ge] at *); (try simp only [x_lt, x_le, Int32.reduceToInt, x_ltL, x_leL, Int64.reduceToInt] at *); omega), (by (try dsimp only); (try simp only [lg_cmp_lt, lg_cmp_le, lg_cmp_gt, lg_cmp_ge] at *); (try simp only [x_lt, x_le, Int32.reduceToInt, x_ltL, x_leL, Int64.reduceToInt] at *); omega)⟩ | exact Or.inr ⟨rfl, (by (try dsimp only); (try simp only [lg_cmp_lt, lg_cmp_le, lg_cmp_gt, lg_cmp_ge] at *); (try simp only [x_lt, x_le, Int32.reduceToInt, x_ltL, x_leL, Int64.reduceToInt] at *); omega)⟩) hP hD hK hS [0] rfl (by decide) dX8_hasBoth_25 hlocks hQ
        · refine lv_iconst (v := 1) hx hb dX8_hasBoth_20 (by decide) ?_
          refine lv_goto (tgt := 25) hx hb dX8_hasBoth_21 (by decide) ?_
          exact x_zret (v := 1) (u := ()) hx hb hr rfl (by first | exact Or.inl ⟨rfl, (by (try dsimp only); (try simp only [lg_cmp_lt, lg_cmp_le, lg_cmp_gt, lg_cmp_ge] at *); (try simp only [x_lt, x_le, Int32.reduceToInt, x_ltL, x_leL, Int64.reduceToInt] at *); omega), (by (try dsimp only); (try simp only [lg_cmp_lt, lg_cmp_le, lg_cmp_gt, lg_cmp_ge] at *); (try simp only [x_lt, x_le, Int32.reduceToInt, x_ltL, x_leL, Int64.reduceToInt] at *); omega), (by (try dsimp only); (try simp only [lg_cmp_lt, lg_cmp_le, lg_cmp_gt, lg_cmp_ge] at *); (try simp only [x_lt, x_le, Int32.reduceToInt, x_ltL, x_leL, Int64.reduceToInt] at *); omega)⟩ | exact Or.inr ⟨rfl, (by (try dsimp only); (try simp only [lg_cmp_lt, lg_cmp_le, lg_cmp_gt, lg_cmp_ge] at *); (try simp only [x_lt, x_le, Int32.reduceToInt, x_ltL, x_leL, Int64.reduceToInt] at *); omega)⟩) hP hD hK hS [0] rfl (by decide) dX8_hasBoth_25 hlocks hQ
  · refine lv_if_eq (tgt := 24) hx hb dX8_hasBoth_5 (by decide) (fun c_6 => ?_) (fun c_6 => ?_)
    · refine lv_iconst (v := 0) hx hb dX8_hasBoth_24 (by decide) ?_
      exact x_zret (v := 0) (u := ()) hx hb hr rfl (by first | exact Or.inl ⟨rfl, (by (try dsimp only); (try simp only [lg_cmp_lt, lg_cmp_le, lg_cmp_gt, lg_cmp_ge] at *); (try simp only [x_lt, x_le, Int32.reduceToInt, x_ltL, x_leL, Int64.reduceToInt] at *); omega), (by (try dsimp only); (try simp only [lg_cmp_lt, lg_cmp_le, lg_cmp_gt, lg_cmp_ge] at *); (try simp only [x_lt, x_le, Int32.reduceToInt, x_ltL, x_leL, Int64.reduceToInt] at *); omega), (by (try dsimp only); (try simp only [lg_cmp_lt, lg_cmp_le, lg_cmp_gt, lg_cmp_ge] at *); (try simp only [x_lt, x_le, Int32.reduceToInt, x_ltL, x_leL, Int64.reduceToInt] at *); omega)⟩ | exact Or.inr ⟨rfl, (by (try dsimp only); (try simp only [lg_cmp_lt, lg_cmp_le, lg_cmp_gt, lg_cmp_ge] at *); (try simp only [x_lt, x_le, Int32.reduceToInt, x_ltL, x_leL, Int64.reduceToInt] at *); omega)⟩) hP hD hK hS [0] rfl (by decide) dX8_hasBoth_25 hlocks hQ
    · exact absurd (by decide) c_6

def v_c_Tape_resultValue0 : List Cond := .code yX8_resultValue cX8_resultValue 2 (some .long) :: ([] ++ (wsV RX8 76 RX8 yX8_hasResult v_c_Tape_hasResult))
theorem g_c_Tape_resultValue0_0 : GoodIn v_c_Tape_resultValue0 (wsV RX8 76 RX8 yX8_hasResult v_c_Tape_hasResult) := goodIn_sub (fun w h => List.mem_cons_of_mem _ (List.mem_append_right _ h)) (by decide +kernel)
set_option maxHeartbeats 4000000 in
set_option maxRecDepth 100000 in
theorem c_Tape_resultValue0 (l : Launch) (D : va_G) (y : Nat → ClassId) (sz : Nat) (h0 a0 a1 a2 a3 a4 : Nat) (st ni fs sz0 sp ed : Int32) (nn : Int64) (k : Int32) : Met l yX8_resultValue v_c_Tape_resultValue0 ({ frames := 1, cells := 0, slots := 0, locals := 21 } : Room) (va_Pc [.ref h0, .int k] (xPre D (xT y) [(h0, .inr (7, [.ref a0, .ref a1, .ref a2, .ref a3, .ref a4, .int st, .int ni, .int fs, .int sz0, .int sp, .int 0, .int ed, .long nn]))] sz)) (va_Ql (fun (r : Int64) (_ : Unit) => r = 0) (fun (u : Unit) => xB D (xT y) (va_A [(h0, .inr (7, [.ref a0, .ref a1, .ref a2, .ref a3, .ref a4, .int st, .int ni, .int fs, .int sz0, .int sp, .int 0, .int ed, .long nn]))] sz) [(h0, .inr (7, [.ref a0, .ref a1, .ref a2, .ref a3, .ref a4, .int st, .int ni, .int fs, .int sz0, .int sp, .int 0, .int ed, .long nn]))]) (va_A [(h0, .inr (7, [.ref a0, .ref a1, .ref a2, .ref a3, .ref a4, .int st, .int ni, .int fs, .int sz0, .int sp, .int 0, .int ed, .long nn]))] sz)) 0 0 (va_A [(h0, .inr (7, [.ref a0, .ref a1, .ref a2, .ref a3, .ref a4, .int st, .int ni, .int fs, .int sz0, .int sp, .int 0, .int ed, .long nn]))] sz) := by
  refine x_metl (cc := cX8_resultValue) (maxL := 2) (by decide) rfl (Nat.le_of_ble_eq_true rfl) ?_
  intro p e s m below meth c A H locs Q hx hb hml hown hts hr hlocks hmn hA hP hK hD hS ls hl hQ
  have hl : lv_has ls 2 [(0, .ref h0), (1, .int k)] := hl
  refine lv_aload_n hx hb dX8_resultValue_0 rfl (lv_at hl 0 rfl) ?_
  refine lv_iload_n hx hb dX8_resultValue_1 rfl (lv_at hl 1 rfl) ?_
  refine x_calli (w1 := fun (u : Unit) => [(h0, .inr (7, [.ref a0, .ref a1, .ref a2, .ref a3, .ref a4, .int st, .int ni, .int fs, .int sz0, .int sp, .int 0, .int ed, .long nn]))]) (wr := []) (ws' := fun (u : Unit) => [(h0, .inr (7, [.ref a0, .ref a1, .ref a2, .ref a3, .ref a4, .int st, .int ni, .int fs, .int sz0, .int sp, .int 0, .int ed, .long nn]))]) (va_runV (As := [.int k]) (rest := []) ⟨hx, hb, hml, hown, hts⟩ (c_Tape_hasResult l D y H.size h0 a0 a1 a2 a3 a4 st ni fs sz0 sp 0 ed nn k) (cwV 1 hts g_c_Tape_resultValue0_0 rfl rfl rfl (by decide +kernel) ⟨Nat.le_of_ble_eq_true rfl, Nat.le_of_ble_eq_true rfl⟩) (x_preV (q := (RX8, TX8, 13)) hK (x_subP hP [0] rfl) (x_subD hD [0] rfl (by decide)) (ci := 7) (q0 := 0) rfl rfl) rfl rfl hl.1 rfl (lv_room (Nat.le_of_ble_eq_true rfl)) dX8_resultValue_2 ⟨Nat.le_of_ble_eq_true rfl, Nat.le_of_ble_eq_true rfl⟩) hP hD hS hA [0] [] rfl rfl (by decide) (by decide) [0] (fun _ => rfl) (by decide) (fun r_1 u H locs hw hP hD hS => ?_)
  try dsimp only at hw
  have hP : va_P D vwCl [(h0, .inr (7, [.ref a0, .ref a1, .ref a2, .ref a3, .ref a4, .int st, .int ni, .int fs, .int sz0, .int sp, .int 0, .int ed, .long nn]))] H := hP
  have hD : va_D A [(h0, .inr (7, [.ref a0, .ref a1, .ref a2, .ref a3, .ref a4, .int st, .int ni, .int fs, .int sz0, .int sp, .int 0, .int ed, .long nn]))] := hD
  rcases hw with ⟨rfl, g_2⟩ | ⟨rfl, g_2⟩
  · refine lv_if_eq (tgt := 21) hx hb dX8_resultValue_5 (by decide) (fun c_3 => ?_) (fun c_3 => ?_)
    · exact absurd c_3 (by decide)
    · exact absurd g_2 (by (try dsimp only); (try simp only [lg_cmp_lt, lg_cmp_le, lg_cmp_gt, lg_cmp_ge] at *); (try simp only [x_lt, x_le, Int32.reduceToInt, x_ltL, x_leL, Int64.reduceToInt] at *); omega)
  · refine lv_if_eq (tgt := 21) hx hb dX8_resultValue_5 (by decide) (fun c_4 => ?_) (fun c_4 => ?_)
    · refine lv_lconst (v := 0) hx hb dX8_resultValue_21 (by decide) ?_
      exact x_lret (v := 0) (u := ()) hx hb hr rfl hP hD hK hS [0] rfl (by decide) dX8_resultValue_22 hlocks hQ
    · exact absurd (by decide) c_4

def v_c_Grouping_forget : List Cond := .code yX1_forget cX1_forget 1 none :: ([.fieldLink RX1 20 "SlopeRunner$Grouping" "inputs" "I"] ++ wsX10)
set_option maxHeartbeats 4000000 in
set_option maxRecDepth 100000 in
theorem c_Grouping_forget (l : Launch) (D : va_G) (y : Nat → ClassId) (sz : Nat) (h0 a0 a1 : Nat) (ni : Int32) : Met l yX1_forget v_c_Grouping_forget ({ frames := 0, cells := 0, slots := 0, locals := 0 } : Room) (va_Pc [.ref h0] (xPre D (xT y) [(h0, .inr (0, [.ref a0, .ref a1, .int ni]))] sz)) (va_Qv (fun (_ : Unit) => True) (fun (u : Unit) => xB D (xT y) (va_A [(h0, .inr (0, [.ref a0, .ref a1, .int ni]))] sz) [(h0, .inr (0, [.ref a0, .ref a1, .int 0]))]) (va_A [(h0, .inr (0, [.ref a0, .ref a1, .int ni]))] sz)) 0 0 (va_A [(h0, .inr (0, [.ref a0, .ref a1, .int ni]))] sz) := by
  refine x_metv (cc := cX1_forget) (maxL := 1) (by decide) rfl (Nat.le_of_ble_eq_true rfl) ?_
  intro p e s m below meth c A H locs Q hx hb hml hown hts hr hlocks hmn hA hP hK hD hS ls hl hQ
  have hl : lv_has ls 1 [(0, .ref h0)] := hl
  have fl20 := hts (.fieldLink RX1 20 "SlopeRunner$Grouping" "inputs" "I") (by decide +kernel)
  have inX1 : ∀ w ∈ wsX10, w ∈ v_c_Grouping_forget := (fun w h => List.mem_cons_of_mem _ (List.mem_append_right _ h))
  refine lv_aload_n hx hb dX1_forget_0 rfl (lv_at hl 0 rfl) ?_
  refine lv_iconst (v := 0) hx hb dX1_forget_1 (by decide) ?_
  refine va_put (D := D) (ci := 0) (v := .int 0) (ty := .int) (C := RX1) (T := TX1) (N := 3) hx hb hts inX1 tyX1 tyX1_ok nmX1 hown hK hP hD hS 0 rfl rfl 2 (by decide) fl20 (fun _ h9 => h9) rfl (by decide +kernel) rfl rfl (Nat.le_of_ble_eq_true rfl) dX1_forget_2 (fun H locs hP hD hS => ?_)
  have hP : va_P D vwCl [(h0, .inr (0, [.ref a0, .ref a1, .int 0]))] H := hP
  have hD : va_D A [(h0, .inr (0, [.ref a0, .ref a1, .int 0]))] := hD
  exact x_vret (u := ()) hx hb hr trivial hP hD hK hS [0] rfl (by decide) dX1_forget_5 hlocks hQ

def v_c_Grouping_groupOf : List Cond := .code yX1_groupOf cX1_groupOf 2 (some .int) :: ([.fieldLink RX1 20 "SlopeRunner$Grouping" "inputs" "I", .fieldLink RX1 11 "SlopeRunner$Grouping" "group" "[I"] ++ wsX10)
set_option maxHeartbeats 4000000 in
set_option maxRecDepth 100000 in
theorem c_Grouping_groupOf (l : Launch) (D : va_G) (y : Nat → ClassId) (sz : Nat) (h0 a0 a1 : Nat) (ni : Int32) (f : Nat → Int32) (k : Int32) (hni : ni.toInt ≤ 8) : Met l yX1_groupOf v_c_Grouping_groupOf ({ frames := 0, cells := 0, slots := 0, locals := 0 } : Room) (va_Pc [.ref h0, .int k] (xPre D (xT y) [(h0, .inr (0, [.ref a0, .ref a1, .int ni])), (a0, .inl (y 2, 8, .inl f))] sz)) (va_Qi (fun (r : Int32) (_ : Unit) => (0 ≤ k.toInt ∧ k.toInt < ni.toInt ∧ r = f k.toNatClampNeg) ∨ ((k.toInt < 0 ∨ ni.toInt ≤ k.toInt) ∧ r = -1)) (fun (u : Unit) => xB D (xT y) (va_A [(h0, .inr (0, [.ref a0, .ref a1, .int ni])), (a0, .inl (y 2, 8, .inl f))] sz) [(h0, .inr (0, [.ref a0, .ref a1, .int ni])), (a0, .inl (y 2, 8, .inl f))]) (va_A [(h0, .inr (0, [.ref a0, .ref a1, .int ni])), (a0, .inl (y 2, 8, .inl f))] sz)) 0 0 (va_A [(h0, .inr (0, [.ref a0, .ref a1, .int ni])), (a0, .inl (y 2, 8, .inl f))] sz) := by
  refine x_meti (cc := cX1_groupOf) (maxL := 2) (by decide) rfl (Nat.le_of_ble_eq_true rfl) ?_
  intro p e s m below meth c A H locs Q hx hb hml hown hts hr hlocks hmn hA hP hK hD hS ls hl hQ
  have hl : lv_has ls 2 [(0, .ref h0), (1, .int k)] := hl
  have fl20 := hts (.fieldLink RX1 20 "SlopeRunner$Grouping" "inputs" "I") (by decide +kernel)
  have inX1 : ∀ w ∈ wsX10, w ∈ v_c_Grouping_groupOf := (fun w h => List.mem_cons_of_mem _ (List.mem_append_right _ h))
  have fl11 := hts (.fieldLink RX1 11 "SlopeRunner$Grouping" "group" "[I") (by decide +kernel)
  refine lv_iload_n hx hb dX1_groupOf_0 rfl (lv_at hl 1 rfl) ?_
  refine lv_if_lt (tgt := 21) hx hb dX1_groupOf_1 (by decide) (fun c_1 => ?_) (fun c_1 => ?_)
  · refine lv_iconst (v := (-1)) hx hb dX1_groupOf_21 (by decide) ?_
    exact x_iret (v := (-1)) (u := ()) hx hb hr (by first | exact Or.inl ⟨(by (try dsimp only); (try simp only [lg_cmp_lt, lg_cmp_le, lg_cmp_gt, lg_cmp_ge] at *); (try simp only [x_lt, x_le, Int32.reduceToInt, x_ltL, x_leL, Int64.reduceToInt] at *); omega), (by (try dsimp only); (try simp only [lg_cmp_lt, lg_cmp_le, lg_cmp_gt, lg_cmp_ge] at *); (try simp only [x_lt, x_le, Int32.reduceToInt, x_ltL, x_leL, Int64.reduceToInt] at *); omega), by assumption⟩ | exact Or.inr ⟨(by (try dsimp only); (try simp only [lg_cmp_lt, lg_cmp_le, lg_cmp_gt, lg_cmp_ge] at *); (try simp only [x_lt, x_le, Int32.reduceToInt, x_ltL, x_leL, Int64.reduceToInt] at *); omega), rfl⟩) hP hD hK hS [0, 1] rfl (by decide) dX1_groupOf_22 hlocks hQ
  · refine lv_iload_n hx hb dX1_groupOf_4 rfl (lv_at hl 1 rfl) ?_
    refine lv_aload_n hx hb dX1_groupOf_5 rfl (lv_at hl 0 rfl) ?_
    refine va_get (D := D) (ci := 0) (v := .int ni) (C := RX1) (T := TX1) (N := 3) hx hb hts inX1 hown hK hP 0 rfl rfl 2 (by decide) fl20 (fun _ h9 => h9) rfl dX1_groupOf_6 ?_
    refine lv_icmp_ge (tgt := 21) hx hb dX1_groupOf_9 (by decide) (fun c_2 => ?_) (fun c_2 => ?_)
    · refine lv_iconst (v := (-1)) hx hb dX1_groupOf_21 (by decide) ?_
      exact x_iret (v := (-1)) (u := ()) hx hb hr (by first | exact Or.inl ⟨(by (try dsimp only); (try simp only [lg_cmp_lt, lg_cmp_le, lg_cmp_gt, lg_cmp_ge] at *); (try simp only [x_lt, x_le, Int32.reduceToInt, x_ltL, x_leL, Int64.reduceToInt] at *); omega), (by (try dsimp only); (try simp only [lg_cmp_lt, lg_cmp_le, lg_cmp_gt, lg_cmp_ge] at *); (try simp only [x_lt, x_le, Int32.reduceToInt, x_ltL, x_leL, Int64.reduceToInt] at *); omega), by assumption⟩ | exact Or.inr ⟨(by (try dsimp only); (try simp only [lg_cmp_lt, lg_cmp_le, lg_cmp_gt, lg_cmp_ge] at *); (try simp only [x_lt, x_le, Int32.reduceToInt, x_ltL, x_leL, Int64.reduceToInt] at *); omega), rfl⟩) hP hD hK hS [0, 1] rfl (by decide) dX1_groupOf_22 hlocks hQ
    · refine lv_aload_n hx hb dX1_groupOf_12 rfl (lv_at hl 0 rfl) ?_
      refine va_get (D := D) (ci := 0) (v := .ref a0) (C := RX1) (T := TX1) (N := 3) hx hb hts inX1 hown hK hP 0 rfl rfl 0 (by decide) fl11 (fun _ h9 => h9) rfl dX1_groupOf_13 ?_
      refine lv_iload_n hx hb dX1_groupOf_16 rfl (lv_at hl 1 rfl) ?_
      refine va_iald hx hb hK hP 1 2 rfl rfl (x_in (by (try dsimp only); (try simp only [lg_cmp_lt, lg_cmp_le, lg_cmp_gt, lg_cmp_ge] at *); (try simp only [x_lt, x_le, Int32.reduceToInt, x_ltL, x_leL, Int64.reduceToInt] at *); omega) (by (try dsimp only); (try simp only [lg_cmp_lt, lg_cmp_le, lg_cmp_gt, lg_cmp_ge] at *); (try simp only [x_lt, x_le, Int32.reduceToInt, x_ltL, x_leL, Int64.reduceToInt] at *); omega)) dX1_groupOf_17 ?_
      refine lv_topi (fun i_3 ei_3 => ?_)
      refine lv_goto (tgt := 22) hx hb dX1_groupOf_18 (by decide) ?_
      exact x_iret (v := i_3) (u := ()) hx hb hr (by first | exact Or.inl ⟨(by (try dsimp only); (try simp only [lg_cmp_lt, lg_cmp_le, lg_cmp_gt, lg_cmp_ge] at *); (try simp only [x_lt, x_le, Int32.reduceToInt, x_ltL, x_leL, Int64.reduceToInt] at *); omega), (by (try dsimp only); (try simp only [lg_cmp_lt, lg_cmp_le, lg_cmp_gt, lg_cmp_ge] at *); (try simp only [x_lt, x_le, Int32.reduceToInt, x_ltL, x_leL, Int64.reduceToInt] at *); omega), by assumption⟩ | exact Or.inr ⟨(by (try dsimp only); (try simp only [lg_cmp_lt, lg_cmp_le, lg_cmp_gt, lg_cmp_ge] at *); (try simp only [x_lt, x_le, Int32.reduceToInt, x_ltL, x_leL, Int64.reduceToInt] at *); omega), rfl⟩) hP hD hK hS [0, 1] rfl (by decide) dX1_groupOf_22 hlocks hQ

def v_c_Inputs_holds : List Cond := .code yX2_holds cX2_holds 2 (some .boolean) :: ([.fieldLink RX2 25 "SlopeRunner$Inputs" "count" "I"] ++ wsX20)
set_option maxHeartbeats 4000000 in
set_option maxRecDepth 100000 in
theorem c_Inputs_holds (l : Launch) (D : va_G) (y : Nat → ClassId) (sz : Nat) (h0 a0 a1 a2 a3 : Nat) (cnt dn kn : Int32) (k : Int32) : Met l yX2_holds v_c_Inputs_holds ({ frames := 0, cells := 0, slots := 0, locals := 0 } : Room) (va_Pc [.ref h0, .int k] (xPre D (xT y) [(h0, .inr (1, [.ref a0, .ref a1, .ref a2, .ref a3, .int cnt, .int dn, .int kn]))] sz)) (va_Qi (fun (r : Int32) (_ : Unit) => (r = 1 ∧ 0 ≤ k.toInt ∧ k.toInt < cnt.toInt) ∨ (r = 0 ∧ (k.toInt < 0 ∨ cnt.toInt ≤ k.toInt))) (fun (u : Unit) => xB D (xT y) (va_A [(h0, .inr (1, [.ref a0, .ref a1, .ref a2, .ref a3, .int cnt, .int dn, .int kn]))] sz) [(h0, .inr (1, [.ref a0, .ref a1, .ref a2, .ref a3, .int cnt, .int dn, .int kn]))]) (va_A [(h0, .inr (1, [.ref a0, .ref a1, .ref a2, .ref a3, .int cnt, .int dn, .int kn]))] sz)) 0 0 (va_A [(h0, .inr (1, [.ref a0, .ref a1, .ref a2, .ref a3, .int cnt, .int dn, .int kn]))] sz) := by
  refine x_meti (cc := cX2_holds) (maxL := 2) (by decide) rfl (Nat.le_of_ble_eq_true rfl) ?_
  intro p e s m below meth c A H locs Q hx hb hml hown hts hr hlocks hmn hA hP hK hD hS ls hl hQ
  have hl : lv_has ls 2 [(0, .ref h0), (1, .int k)] := hl
  have fl25 := hts (.fieldLink RX2 25 "SlopeRunner$Inputs" "count" "I") (by decide +kernel)
  have inX2 : ∀ w ∈ wsX20, w ∈ v_c_Inputs_holds := (fun w h => List.mem_cons_of_mem _ (List.mem_append_right _ h))
  refine lv_iload_n hx hb dX2_holds_0 rfl (lv_at hl 1 rfl) ?_
  refine lv_if_lt (tgt := 16) hx hb dX2_holds_1 (by decide) (fun c_1 => ?_) (fun c_1 => ?_)
  · refine lv_iconst (v := 0) hx hb dX2_holds_16 (by decide) ?_
    exact x_zret (v := 0) (u := ()) hx hb hr rfl (by first | exact Or.inl ⟨rfl, (by (try dsimp only); (try simp only [lg_cmp_lt, lg_cmp_le, lg_cmp_gt, lg_cmp_ge] at *); (try simp only [x_lt, x_le, Int32.reduceToInt, x_ltL, x_leL, Int64.reduceToInt] at *); omega), (by (try dsimp only); (try simp only [lg_cmp_lt, lg_cmp_le, lg_cmp_gt, lg_cmp_ge] at *); (try simp only [x_lt, x_le, Int32.reduceToInt, x_ltL, x_leL, Int64.reduceToInt] at *); omega)⟩ | exact Or.inr ⟨rfl, (by (try dsimp only); (try simp only [lg_cmp_lt, lg_cmp_le, lg_cmp_gt, lg_cmp_ge] at *); (try simp only [x_lt, x_le, Int32.reduceToInt, x_ltL, x_leL, Int64.reduceToInt] at *); omega)⟩) hP hD hK hS [0] rfl (by decide) dX2_holds_17 hlocks hQ
  · refine lv_iload_n hx hb dX2_holds_4 rfl (lv_at hl 1 rfl) ?_
    refine lv_aload_n hx hb dX2_holds_5 rfl (lv_at hl 0 rfl) ?_
    refine va_get (D := D) (ci := 1) (v := .int cnt) (C := RX2) (T := TX2) (N := 7) hx hb hts inX2 hown hK hP 0 rfl rfl 4 (by decide) fl25 (fun _ h9 => h9) rfl dX2_holds_6 ?_
    refine lv_icmp_ge (tgt := 16) hx hb dX2_holds_9 (by decide) (fun c_2 => ?_) (fun c_2 => ?_)
    · refine lv_iconst (v := 0) hx hb dX2_holds_16 (by decide) ?_
      exact x_zret (v := 0) (u := ()) hx hb hr rfl (by first | exact Or.inl ⟨rfl, (by (try dsimp only); (try simp only [lg_cmp_lt, lg_cmp_le, lg_cmp_gt, lg_cmp_ge] at *); (try simp only [x_lt, x_le, Int32.reduceToInt, x_ltL, x_leL, Int64.reduceToInt] at *); omega), (by (try dsimp only); (try simp only [lg_cmp_lt, lg_cmp_le, lg_cmp_gt, lg_cmp_ge] at *); (try simp only [x_lt, x_le, Int32.reduceToInt, x_ltL, x_leL, Int64.reduceToInt] at *); omega)⟩ | exact Or.inr ⟨rfl, (by (try dsimp only); (try simp only [lg_cmp_lt, lg_cmp_le, lg_cmp_gt, lg_cmp_ge] at *); (try simp only [x_lt, x_le, Int32.reduceToInt, x_ltL, x_leL, Int64.reduceToInt] at *); omega)⟩) hP hD hK hS [0] rfl (by decide) dX2_holds_17 hlocks hQ
    · refine lv_iconst (v := 1) hx hb dX2_holds_12 (by decide) ?_
      refine lv_goto (tgt := 17) hx hb dX2_holds_13 (by decide) ?_
      exact x_zret (v := 1) (u := ()) hx hb hr rfl (by first | exact Or.inl ⟨rfl, (by (try dsimp only); (try simp only [lg_cmp_lt, lg_cmp_le, lg_cmp_gt, lg_cmp_ge] at *); (try simp only [x_lt, x_le, Int32.reduceToInt, x_ltL, x_leL, Int64.reduceToInt] at *); omega), (by (try dsimp only); (try simp only [lg_cmp_lt, lg_cmp_le, lg_cmp_gt, lg_cmp_ge] at *); (try simp only [x_lt, x_le, Int32.reduceToInt, x_ltL, x_leL, Int64.reduceToInt] at *); omega)⟩ | exact Or.inr ⟨rfl, (by (try dsimp only); (try simp only [lg_cmp_lt, lg_cmp_le, lg_cmp_gt, lg_cmp_ge] at *); (try simp only [x_lt, x_le, Int32.reduceToInt, x_ltL, x_leL, Int64.reduceToInt] at *); omega)⟩) hP hD hK hS [0] rfl (by decide) dX2_holds_17 hlocks hQ

def v_c_Inputs_valueOf : List Cond := .code yX2_valueOf cX2_valueOf 2 (some .long) :: ([.fieldLink RX2 9 "SlopeRunner$Inputs" "value" "[J"] ++ ((wsV RX2 37 RX2 yX2_holds v_c_Inputs_holds) ++ wsX20))
theorem g_c_Inputs_valueOf_0 : GoodIn v_c_Inputs_valueOf (wsV RX2 37 RX2 yX2_holds v_c_Inputs_holds) := goodIn_sub (fun w h => List.mem_cons_of_mem _ (List.mem_append_right _ (List.mem_append_left _ h))) (by decide +kernel)
set_option maxHeartbeats 4000000 in
set_option maxRecDepth 100000 in
theorem c_Inputs_valueOf (l : Launch) (D : va_G) (y : Nat → ClassId) (sz : Nat) (h0 a0 a1 a2 a3 : Nat) (cnt dn kn : Int32) (f : Nat → Int64) (k : Int32) (hc : cnt.toInt ≤ 8) : Met l yX2_valueOf v_c_Inputs_valueOf ({ frames := 1, cells := 0, slots := 0, locals := 21 } : Room) (va_Pc [.ref h0, .int k] (xPre D (xT y) [(h0, .inr (1, [.ref a0, .ref a1, .ref a2, .ref a3, .int cnt, .int dn, .int kn])), (a0, .inl (y 3, 8, .inr (.inl f)))] sz)) (va_Ql (fun (r : Int64) (_ : Unit) => (0 ≤ k.toInt ∧ k.toInt < cnt.toInt ∧ r = f k.toNatClampNeg) ∨ ((k.toInt < 0 ∨ cnt.toInt ≤ k.toInt) ∧ r = 0)) (fun (u : Unit) => xB D (xT y) (va_A [(h0, .inr (1, [.ref a0, .ref a1, .ref a2, .ref a3, .int cnt, .int dn, .int kn])), (a0, .inl (y 3, 8, .inr (.inl f)))] sz) [(h0, .inr (1, [.ref a0, .ref a1, .ref a2, .ref a3, .int cnt, .int dn, .int kn])), (a0, .inl (y 3, 8, .inr (.inl f)))]) (va_A [(h0, .inr (1, [.ref a0, .ref a1, .ref a2, .ref a3, .int cnt, .int dn, .int kn])), (a0, .inl (y 3, 8, .inr (.inl f)))] sz)) 0 0 (va_A [(h0, .inr (1, [.ref a0, .ref a1, .ref a2, .ref a3, .int cnt, .int dn, .int kn])), (a0, .inl (y 3, 8, .inr (.inl f)))] sz) := by
  refine x_metl (cc := cX2_valueOf) (maxL := 2) (by decide) rfl (Nat.le_of_ble_eq_true rfl) ?_
  intro p e s m below meth c A H locs Q hx hb hml hown hts hr hlocks hmn hA hP hK hD hS ls hl hQ
  have hl : lv_has ls 2 [(0, .ref h0), (1, .int k)] := hl
  have fl9 := hts (.fieldLink RX2 9 "SlopeRunner$Inputs" "value" "[J") (by decide +kernel)
  have inX2 : ∀ w ∈ wsX20, w ∈ v_c_Inputs_valueOf := (fun w h => List.mem_cons_of_mem _ (List.mem_append_right _ (List.mem_append_right _ h)))
  refine lv_aload_n hx hb dX2_valueOf_0 rfl (lv_at hl 0 rfl) ?_
  refine lv_iload_n hx hb dX2_valueOf_1 rfl (lv_at hl 1 rfl) ?_
  refine x_calli (w1 := fun (u : Unit) => [(h0, .inr (1, [.ref a0, .ref a1, .ref a2, .ref a3, .int cnt, .int dn, .int kn]))]) (wr := [(a0, .inl (y 3, 8, .inr (.inl f)))]) (ws' := fun (u : Unit) => [(h0, .inr (1, [.ref a0, .ref a1, .ref a2, .ref a3, .int cnt, .int dn, .int kn])), (a0, .inl (y 3, 8, .inr (.inl f)))]) (va_runV (As := [.int k]) (rest := []) ⟨hx, hb, hml, hown, hts⟩ (c_Inputs_holds l D y H.size h0 a0 a1 a2 a3 cnt dn kn k) (cwV 1 hts g_c_Inputs_valueOf_0 rfl rfl rfl (by decide +kernel) ⟨Nat.le_of_ble_eq_true rfl, Nat.le_of_ble_eq_true rfl⟩) (x_preV (q := (RX2, TX2, 7)) hK (x_subP hP [0] rfl) (x_subD hD [0] rfl (by decide)) (ci := 1) (q0 := 0) rfl rfl) rfl rfl hl.1 rfl (lv_room (Nat.le_of_ble_eq_true rfl)) dX2_valueOf_2 ⟨Nat.le_of_ble_eq_true rfl, Nat.le_of_ble_eq_true rfl⟩) hP hD hS hA [0] [1] rfl rfl (by decide) (by decide) [1, 0] (fun _ => rfl) (by decide) (fun r_1 u H locs hw hP hD hS => ?_)
  try dsimp only at hw
  have hP : va_P D vwCl [(h0, .inr (1, [.ref a0, .ref a1, .ref a2, .ref a3, .int cnt, .int dn, .int kn])), (a0, .inl (y 3, 8, .inr (.inl f)))] H := hP
  have hD : va_D A [(h0, .inr (1, [.ref a0, .ref a1, .ref a2, .ref a3, .int cnt, .int dn, .int kn])), (a0, .inl (y 3, 8, .inr (.inl f)))] := hD
  rcases hw with ⟨rfl, g_2⟩ | ⟨rfl, g_2⟩
  · refine lv_if_eq (tgt := 17) hx hb dX2_valueOf_5 (by decide) (fun c_3 => ?_) (fun c_3 => ?_)
    · exact absurd c_3 (by decide)
    · refine lv_aload_n hx hb dX2_valueOf_8 rfl (lv_at hl 0 rfl) ?_
      refine va_get (D := D) (ci := 1) (v := .ref a0) (C := RX2) (T := TX2) (N := 7) hx hb hts inX2 hown hK hP 0 rfl rfl 0 (by decide) fl9 (fun _ h9 => h9) rfl dX2_valueOf_9 ?_
      refine lv_iload_n hx hb dX2_valueOf_12 rfl (lv_at hl 1 rfl) ?_
      refine va_lald hx hb hK hP 1 3 rfl rfl (x_in (by (try dsimp only); (try simp only [lg_cmp_lt, lg_cmp_le, lg_cmp_gt, lg_cmp_ge] at *); (try simp only [x_lt, x_le, Int32.reduceToInt, x_ltL, x_leL, Int64.reduceToInt] at *); omega) (by (try dsimp only); (try simp only [lg_cmp_lt, lg_cmp_le, lg_cmp_gt, lg_cmp_ge] at *); (try simp only [x_lt, x_le, Int32.reduceToInt, x_ltL, x_leL, Int64.reduceToInt] at *); omega)) dX2_valueOf_13 ?_
      refine lv_topl (fun j_4 ej_4 => ?_)
      refine lv_goto (tgt := 18) hx hb dX2_valueOf_14 (by decide) ?_
      exact x_lret (v := j_4) (u := ()) hx hb hr (by first | exact Or.inl ⟨(by (try dsimp only); (try simp only [lg_cmp_lt, lg_cmp_le, lg_cmp_gt, lg_cmp_ge] at *); (try simp only [x_lt, x_le, Int32.reduceToInt, x_ltL, x_leL, Int64.reduceToInt] at *); omega), (by (try dsimp only); (try simp only [lg_cmp_lt, lg_cmp_le, lg_cmp_gt, lg_cmp_ge] at *); (try simp only [x_lt, x_le, Int32.reduceToInt, x_ltL, x_leL, Int64.reduceToInt] at *); omega), by assumption⟩ | exact Or.inr ⟨(by (try dsimp only); (try simp only [lg_cmp_lt, lg_cmp_le, lg_cmp_gt, lg_cmp_ge] at *); (try simp only [x_lt, x_le, Int32.reduceToInt, x_ltL, x_leL, Int64.reduceToInt] at *); omega), rfl⟩) hP hD hK hS [0, 1] rfl (by decide) dX2_valueOf_18 hlocks hQ
  · refine lv_if_eq (tgt := 17) hx hb dX2_valueOf_5 (by decide) (fun c_5 => ?_) (fun c_5 => ?_)
    · refine lv_lconst (v := 0) hx hb dX2_valueOf_17 (by decide) ?_
      exact x_lret (v := 0) (u := ()) hx hb hr (by first | exact Or.inl ⟨(by (try dsimp only); (try simp only [lg_cmp_lt, lg_cmp_le, lg_cmp_gt, lg_cmp_ge] at *); (try simp only [x_lt, x_le, Int32.reduceToInt, x_ltL, x_leL, Int64.reduceToInt] at *); omega), (by (try dsimp only); (try simp only [lg_cmp_lt, lg_cmp_le, lg_cmp_gt, lg_cmp_ge] at *); (try simp only [x_lt, x_le, Int32.reduceToInt, x_ltL, x_leL, Int64.reduceToInt] at *); omega), by assumption⟩ | exact Or.inr ⟨(by (try dsimp only); (try simp only [lg_cmp_lt, lg_cmp_le, lg_cmp_gt, lg_cmp_ge] at *); (try simp only [x_lt, x_le, Int32.reduceToInt, x_ltL, x_leL, Int64.reduceToInt] at *); omega), rfl⟩) hP hD hK hS [0, 1] rfl (by decide) dX2_valueOf_18 hlocks hQ
    · exact absurd (by decide) c_5

def v_c_Inputs_begin : List Cond := .code yX2_begin cX2_begin 3 none :: ([.fieldLink RX2 25 "SlopeRunner$Inputs" "count" "I", .fieldLink RX2 29 "SlopeRunner$Inputs" "done" "I", .fieldLink RX2 32 "SlopeRunner$Inputs" "known" "I", .fieldLink RX2 9 "SlopeRunner$Inputs" "value" "[J"] ++ wsX20)
set_option maxHeartbeats 4000000 in
set_option maxRecDepth 100000 in
theorem c_Inputs_begin (l : Launch) (D : va_G) (y : Nat → ClassId) (sz : Nat) (h0 a0 a1 a2 a3 : Nat) (cnt dn kn : Int32) (f : Nat → Int64) (k : Int32) : Met l yX2_begin v_c_Inputs_begin ({ frames := 0, cells := 0, slots := 0, locals := 0 } : Room) (va_Pc [.ref h0, .int k] (xPre D (xT y) [(h0, .inr (1, [.ref a0, .ref a1, .ref a2, .ref a3, .int cnt, .int dn, .int kn])), (a0, .inl (y 3, 8, .inr (.inl f)))] sz)) (va_Qv (fun (u : Nat → Int64) => ∀ i : Nat, i < 8 → u i = 1) (fun (u : Nat → Int64) => xB D (xT y) (va_A [(h0, .inr (1, [.ref a0, .ref a1, .ref a2, .ref a3, .int cnt, .int dn, .int kn])), (a0, .inl (y 3, 8, .inr (.inl f)))] sz) [(h0, .inr (1, [.ref a0, .ref a1, .ref a2, .ref a3, .int k, .int 0, .int 0])), (a0, .inl (y 3, 8, .inr (.inl u)))]) (va_A [(h0, .inr (1, [.ref a0, .ref a1, .ref a2, .ref a3, .int cnt, .int dn, .int kn])), (a0, .inl (y 3, 8, .inr (.inl f)))] sz)) 0 0 (va_A [(h0, .inr (1, [.ref a0, .ref a1, .ref a2, .ref a3, .int cnt, .int dn, .int kn])), (a0, .inl (y 3, 8, .inr (.inl f)))] sz) := by
  refine x_metv (cc := cX2_begin) (maxL := 3) (by decide) rfl (Nat.le_of_ble_eq_true rfl) ?_
  intro p e s m below meth c A H locs Q hx hb hml hown hts hr hlocks hmn hA hP hK hD hS ls hl hQ
  have hl : lv_has ls 3 [(0, .ref h0), (1, .int k)] := hl
  have fl25 := hts (.fieldLink RX2 25 "SlopeRunner$Inputs" "count" "I") (by decide +kernel)
  have inX2 : ∀ w ∈ wsX20, w ∈ v_c_Inputs_begin := (fun w h => List.mem_cons_of_mem _ (List.mem_append_right _ h))
  have fl29 := hts (.fieldLink RX2 29 "SlopeRunner$Inputs" "done" "I") (by decide +kernel)
  have fl32 := hts (.fieldLink RX2 32 "SlopeRunner$Inputs" "known" "I") (by decide +kernel)
  have fl9 := hts (.fieldLink RX2 9 "SlopeRunner$Inputs" "value" "[J") (by decide +kernel)
  refine lv_aload_n hx hb dX2_begin_0 rfl (lv_at hl 0 rfl) ?_
  refine lv_iload_n hx hb dX2_begin_1 rfl (lv_at hl 1 rfl) ?_
  refine va_put (D := D) (ci := 1) (v := .int k) (ty := .int) (C := RX2) (T := TX2) (N := 7) hx hb hts inX2 tyX2 tyX2_ok nmX2 hown hK hP hD hS 0 rfl rfl 4 (by decide) fl25 (fun _ h9 => h9) rfl (by decide +kernel) rfl rfl (Nat.le_of_ble_eq_true rfl) dX2_begin_2 (fun H locs hP hD hS => ?_)
  have hP : va_P D vwCl [(h0, .inr (1, [.ref a0, .ref a1, .ref a2, .ref a3, .int k, .int dn, .int kn])), (a0, .inl (y 3, 8, .inr (.inl f)))] H := hP
  have hD : va_D A [(h0, .inr (1, [.ref a0, .ref a1, .ref a2, .ref a3, .int k, .int dn, .int kn])), (a0, .inl (y 3, 8, .inr (.inl f)))] := hD
  refine lv_aload_n hx hb dX2_begin_5 rfl (lv_at hl 0 rfl) ?_
  refine lv_iconst (v := 0) hx hb dX2_begin_6 (by decide) ?_
  refine va_put (D := D) (ci := 1) (v := .int 0) (ty := .int) (C := RX2) (T := TX2) (N := 7) hx hb hts inX2 tyX2 tyX2_ok nmX2 hown hK hP hD hS 0 rfl rfl 5 (by decide) fl29 (fun _ h9 => h9) rfl (by decide +kernel) rfl rfl (Nat.le_of_ble_eq_true rfl) dX2_begin_7 (fun H locs hP hD hS => ?_)
  have hP : va_P D vwCl [(h0, .inr (1, [.ref a0, .ref a1, .ref a2, .ref a3, .int k, .int 0, .int kn])), (a0, .inl (y 3, 8, .inr (.inl f)))] H := hP
  have hD : va_D A [(h0, .inr (1, [.ref a0, .ref a1, .ref a2, .ref a3, .int k, .int 0, .int kn])), (a0, .inl (y 3, 8, .inr (.inl f)))] := hD
  refine lv_aload_n hx hb dX2_begin_10 rfl (lv_at hl 0 rfl) ?_
  refine lv_iconst (v := 0) hx hb dX2_begin_11 (by decide) ?_
  refine va_put (D := D) (ci := 1) (v := .int 0) (ty := .int) (C := RX2) (T := TX2) (N := 7) hx hb hts inX2 tyX2 tyX2_ok nmX2 hown hK hP hD hS 0 rfl rfl 6 (by decide) fl32 (fun _ h9 => h9) rfl (by decide +kernel) rfl rfl (Nat.le_of_ble_eq_true rfl) dX2_begin_12 (fun H locs hP hD hS => ?_)
  have hP : va_P D vwCl [(h0, .inr (1, [.ref a0, .ref a1, .ref a2, .ref a3, .int k, .int 0, .int 0])), (a0, .inl (y 3, 8, .inr (.inl f)))] H := hP
  have hD : va_D A [(h0, .inr (1, [.ref a0, .ref a1, .ref a2, .ref a3, .int k, .int 0, .int 0])), (a0, .inl (y 3, 8, .inr (.inl f)))] := hD
  refine lv_iconst (v := 0) hx hb dX2_begin_15 (by decide) ?_
  refine lv_istore_n (lv' := [(2, .int 0), (0, .ref h0), (1, .int k)]) hx hb dX2_begin_16 rfl hl (by decide) rfl (fun ls hl => ?_)
  refine lv_iload_n hx hb dX2_begin_17 rfl (lv_at hl 0 rfl) ?_
  refine lv_aload_n hx hb dX2_begin_18 rfl (lv_at hl 1 rfl) ?_
  refine va_get (D := D) (ci := 1) (v := .ref a0) (C := RX2) (T := TX2) (N := 7) hx hb hts inX2 hown hK hP 0 rfl rfl 0 (by decide) fl9 (fun _ h9 => h9) rfl dX2_begin_19 ?_
  refine va_alen hx hb hK hP 1 3 rfl rfl (v := 8) rfl dX2_begin_22 ?_
  refine lv_icmp_ge (tgt := 39) hx hb dX2_begin_23 (by decide) (fun c_1 => ?_) (fun c_1 => ?_)
  · exact absurd c_1 (by decide)
  · refine lv_aload_n hx hb dX2_begin_26 rfl (lv_at hl 1 rfl) ?_
    refine va_get (D := D) (ci := 1) (v := .ref a0) (C := RX2) (T := TX2) (N := 7) hx hb hts inX2 hown hK hP 0 rfl rfl 0 (by decide) fl9 (fun _ h9 => h9) rfl dX2_begin_27 ?_
    refine lv_iload_n hx hb dX2_begin_30 rfl (lv_at hl 0 rfl) ?_
    refine lv_lconst (v := 1) hx hb dX2_begin_31 (by decide) ?_
    refine va_last hx hb hK hP hD hS 1 3 rfl rfl (x_in (by decide) (by decide)) dX2_begin_32 (fun H locs hP hD hS => ?_)
    have hP : va_P D vwCl [(h0, .inr (1, [.ref a0, .ref a1, .ref a2, .ref a3, .int k, .int 0, .int 0])), (a0, .inl (y 3, 8, .inr (.inl (vp_updL f (Int32.toNatClampNeg 0) 1))))] H := hP
    have hD : va_D A [(h0, .inr (1, [.ref a0, .ref a1, .ref a2, .ref a3, .int k, .int 0, .int 0])), (a0, .inl (y 3, 8, .inr (.inl (vp_updL f (Int32.toNatClampNeg 0) 1))))] := hD
    refine lv_iinc (v := 1) (lv' := [(2, .int 1), (0, .ref h0), (1, .int k)]) hx hb dX2_begin_33 hl (k := 0) rfl (by decide) (by decide) rfl (fun ls hl => ?_)
    refine lv_goto (tgt := 17) hx hb dX2_begin_36 (by decide) ?_
    refine lv_iload_n hx hb dX2_begin_17 rfl (lv_at hl 0 rfl) ?_
    refine lv_aload_n hx hb dX2_begin_18 rfl (lv_at hl 1 rfl) ?_
    refine va_get (D := D) (ci := 1) (v := .ref a0) (C := RX2) (T := TX2) (N := 7) hx hb hts inX2 hown hK hP 0 rfl rfl 0 (by decide) fl9 (fun _ h9 => h9) rfl dX2_begin_19 ?_
    refine va_alen hx hb hK hP 1 3 rfl rfl (v := 8) rfl dX2_begin_22 ?_
    refine lv_icmp_ge (tgt := 39) hx hb dX2_begin_23 (by decide) (fun c_2 => ?_) (fun c_2 => ?_)
    · exact absurd c_2 (by decide)
    · refine lv_aload_n hx hb dX2_begin_26 rfl (lv_at hl 1 rfl) ?_
      refine va_get (D := D) (ci := 1) (v := .ref a0) (C := RX2) (T := TX2) (N := 7) hx hb hts inX2 hown hK hP 0 rfl rfl 0 (by decide) fl9 (fun _ h9 => h9) rfl dX2_begin_27 ?_
      refine lv_iload_n hx hb dX2_begin_30 rfl (lv_at hl 0 rfl) ?_
      refine lv_lconst (v := 1) hx hb dX2_begin_31 (by decide) ?_
      refine va_last hx hb hK hP hD hS 1 3 rfl rfl (x_in (by decide) (by decide)) dX2_begin_32 (fun H locs hP hD hS => ?_)
      have hP : va_P D vwCl [(h0, .inr (1, [.ref a0, .ref a1, .ref a2, .ref a3, .int k, .int 0, .int 0])), (a0, .inl (y 3, 8, .inr (.inl (vp_updL (vp_updL f (Int32.toNatClampNeg 0) 1) (Int32.toNatClampNeg 1) 1))))] H := hP
      have hD : va_D A [(h0, .inr (1, [.ref a0, .ref a1, .ref a2, .ref a3, .int k, .int 0, .int 0])), (a0, .inl (y 3, 8, .inr (.inl (vp_updL (vp_updL f (Int32.toNatClampNeg 0) 1) (Int32.toNatClampNeg 1) 1))))] := hD
      refine lv_iinc (v := 2) (lv' := [(2, .int 2), (0, .ref h0), (1, .int k)]) hx hb dX2_begin_33 hl (k := 0) rfl (by decide) (by decide) rfl (fun ls hl => ?_)
      refine lv_goto (tgt := 17) hx hb dX2_begin_36 (by decide) ?_
      refine lv_iload_n hx hb dX2_begin_17 rfl (lv_at hl 0 rfl) ?_
      refine lv_aload_n hx hb dX2_begin_18 rfl (lv_at hl 1 rfl) ?_
      refine va_get (D := D) (ci := 1) (v := .ref a0) (C := RX2) (T := TX2) (N := 7) hx hb hts inX2 hown hK hP 0 rfl rfl 0 (by decide) fl9 (fun _ h9 => h9) rfl dX2_begin_19 ?_
      refine va_alen hx hb hK hP 1 3 rfl rfl (v := 8) rfl dX2_begin_22 ?_
      refine lv_icmp_ge (tgt := 39) hx hb dX2_begin_23 (by decide) (fun c_3 => ?_) (fun c_3 => ?_)
      · exact absurd c_3 (by decide)
      · refine lv_aload_n hx hb dX2_begin_26 rfl (lv_at hl 1 rfl) ?_
        refine va_get (D := D) (ci := 1) (v := .ref a0) (C := RX2) (T := TX2) (N := 7) hx hb hts inX2 hown hK hP 0 rfl rfl 0 (by decide) fl9 (fun _ h9 => h9) rfl dX2_begin_27 ?_
        refine lv_iload_n hx hb dX2_begin_30 rfl (lv_at hl 0 rfl) ?_
        refine lv_lconst (v := 1) hx hb dX2_begin_31 (by decide) ?_
        refine va_last hx hb hK hP hD hS 1 3 rfl rfl (x_in (by decide) (by decide)) dX2_begin_32 (fun H locs hP hD hS => ?_)
        have hP : va_P D vwCl [(h0, .inr (1, [.ref a0, .ref a1, .ref a2, .ref a3, .int k, .int 0, .int 0])), (a0, .inl (y 3, 8, .inr (.inl (vp_updL (vp_updL (vp_updL f (Int32.toNatClampNeg 0) 1) (Int32.toNatClampNeg 1) 1) (Int32.toNatClampNeg 2) 1))))] H := hP
        have hD : va_D A [(h0, .inr (1, [.ref a0, .ref a1, .ref a2, .ref a3, .int k, .int 0, .int 0])), (a0, .inl (y 3, 8, .inr (.inl (vp_updL (vp_updL (vp_updL f (Int32.toNatClampNeg 0) 1) (Int32.toNatClampNeg 1) 1) (Int32.toNatClampNeg 2) 1))))] := hD
        refine lv_iinc (v := 3) (lv' := [(2, .int 3), (0, .ref h0), (1, .int k)]) hx hb dX2_begin_33 hl (k := 0) rfl (by decide) (by decide) rfl (fun ls hl => ?_)
        refine lv_goto (tgt := 17) hx hb dX2_begin_36 (by decide) ?_
        refine lv_iload_n hx hb dX2_begin_17 rfl (lv_at hl 0 rfl) ?_
        refine lv_aload_n hx hb dX2_begin_18 rfl (lv_at hl 1 rfl) ?_
        refine va_get (D := D) (ci := 1) (v := .ref a0) (C := RX2) (T := TX2) (N := 7) hx hb hts inX2 hown hK hP 0 rfl rfl 0 (by decide) fl9 (fun _ h9 => h9) rfl dX2_begin_19 ?_
        refine va_alen hx hb hK hP 1 3 rfl rfl (v := 8) rfl dX2_begin_22 ?_
        refine lv_icmp_ge (tgt := 39) hx hb dX2_begin_23 (by decide) (fun c_4 => ?_) (fun c_4 => ?_)
        · exact absurd c_4 (by decide)
        · refine lv_aload_n hx hb dX2_begin_26 rfl (lv_at hl 1 rfl) ?_
          refine va_get (D := D) (ci := 1) (v := .ref a0) (C := RX2) (T := TX2) (N := 7) hx hb hts inX2 hown hK hP 0 rfl rfl 0 (by decide) fl9 (fun _ h9 => h9) rfl dX2_begin_27 ?_
          refine lv_iload_n hx hb dX2_begin_30 rfl (lv_at hl 0 rfl) ?_
          refine lv_lconst (v := 1) hx hb dX2_begin_31 (by decide) ?_
          refine va_last hx hb hK hP hD hS 1 3 rfl rfl (x_in (by decide) (by decide)) dX2_begin_32 (fun H locs hP hD hS => ?_)
          have hP : va_P D vwCl [(h0, .inr (1, [.ref a0, .ref a1, .ref a2, .ref a3, .int k, .int 0, .int 0])), (a0, .inl (y 3, 8, .inr (.inl (vp_updL (vp_updL (vp_updL (vp_updL f (Int32.toNatClampNeg 0) 1) (Int32.toNatClampNeg 1) 1) (Int32.toNatClampNeg 2) 1) (Int32.toNatClampNeg 3) 1))))] H := hP
          have hD : va_D A [(h0, .inr (1, [.ref a0, .ref a1, .ref a2, .ref a3, .int k, .int 0, .int 0])), (a0, .inl (y 3, 8, .inr (.inl (vp_updL (vp_updL (vp_updL (vp_updL f (Int32.toNatClampNeg 0) 1) (Int32.toNatClampNeg 1) 1) (Int32.toNatClampNeg 2) 1) (Int32.toNatClampNeg 3) 1))))] := hD
          refine lv_iinc (v := 4) (lv' := [(2, .int 4), (0, .ref h0), (1, .int k)]) hx hb dX2_begin_33 hl (k := 0) rfl (by decide) (by decide) rfl (fun ls hl => ?_)
          refine lv_goto (tgt := 17) hx hb dX2_begin_36 (by decide) ?_
          refine lv_iload_n hx hb dX2_begin_17 rfl (lv_at hl 0 rfl) ?_
          refine lv_aload_n hx hb dX2_begin_18 rfl (lv_at hl 1 rfl) ?_
          refine va_get (D := D) (ci := 1) (v := .ref a0) (C := RX2) (T := TX2) (N := 7) hx hb hts inX2 hown hK hP 0 rfl rfl 0 (by decide) fl9 (fun _ h9 => h9) rfl dX2_begin_19 ?_
          refine va_alen hx hb hK hP 1 3 rfl rfl (v := 8) rfl dX2_begin_22 ?_
          refine lv_icmp_ge (tgt := 39) hx hb dX2_begin_23 (by decide) (fun c_5 => ?_) (fun c_5 => ?_)
          · exact absurd c_5 (by decide)
          · refine lv_aload_n hx hb dX2_begin_26 rfl (lv_at hl 1 rfl) ?_
            refine va_get (D := D) (ci := 1) (v := .ref a0) (C := RX2) (T := TX2) (N := 7) hx hb hts inX2 hown hK hP 0 rfl rfl 0 (by decide) fl9 (fun _ h9 => h9) rfl dX2_begin_27 ?_
            refine lv_iload_n hx hb dX2_begin_30 rfl (lv_at hl 0 rfl) ?_
            refine lv_lconst (v := 1) hx hb dX2_begin_31 (by decide) ?_
            refine va_last hx hb hK hP hD hS 1 3 rfl rfl (x_in (by decide) (by decide)) dX2_begin_32 (fun H locs hP hD hS => ?_)
            have hP : va_P D vwCl [(h0, .inr (1, [.ref a0, .ref a1, .ref a2, .ref a3, .int k, .int 0, .int 0])), (a0, .inl (y 3, 8, .inr (.inl (vp_updL (vp_updL (vp_updL (vp_updL (vp_updL f (Int32.toNatClampNeg 0) 1) (Int32.toNatClampNeg 1) 1) (Int32.toNatClampNeg 2) 1) (Int32.toNatClampNeg 3) 1) (Int32.toNatClampNeg 4) 1))))] H := hP
            have hD : va_D A [(h0, .inr (1, [.ref a0, .ref a1, .ref a2, .ref a3, .int k, .int 0, .int 0])), (a0, .inl (y 3, 8, .inr (.inl (vp_updL (vp_updL (vp_updL (vp_updL (vp_updL f (Int32.toNatClampNeg 0) 1) (Int32.toNatClampNeg 1) 1) (Int32.toNatClampNeg 2) 1) (Int32.toNatClampNeg 3) 1) (Int32.toNatClampNeg 4) 1))))] := hD
            refine lv_iinc (v := 5) (lv' := [(2, .int 5), (0, .ref h0), (1, .int k)]) hx hb dX2_begin_33 hl (k := 0) rfl (by decide) (by decide) rfl (fun ls hl => ?_)
            refine lv_goto (tgt := 17) hx hb dX2_begin_36 (by decide) ?_
            refine lv_iload_n hx hb dX2_begin_17 rfl (lv_at hl 0 rfl) ?_
            refine lv_aload_n hx hb dX2_begin_18 rfl (lv_at hl 1 rfl) ?_
            refine va_get (D := D) (ci := 1) (v := .ref a0) (C := RX2) (T := TX2) (N := 7) hx hb hts inX2 hown hK hP 0 rfl rfl 0 (by decide) fl9 (fun _ h9 => h9) rfl dX2_begin_19 ?_
            refine va_alen hx hb hK hP 1 3 rfl rfl (v := 8) rfl dX2_begin_22 ?_
            refine lv_icmp_ge (tgt := 39) hx hb dX2_begin_23 (by decide) (fun c_6 => ?_) (fun c_6 => ?_)
            · exact absurd c_6 (by decide)
            · refine lv_aload_n hx hb dX2_begin_26 rfl (lv_at hl 1 rfl) ?_
              refine va_get (D := D) (ci := 1) (v := .ref a0) (C := RX2) (T := TX2) (N := 7) hx hb hts inX2 hown hK hP 0 rfl rfl 0 (by decide) fl9 (fun _ h9 => h9) rfl dX2_begin_27 ?_
              refine lv_iload_n hx hb dX2_begin_30 rfl (lv_at hl 0 rfl) ?_
              refine lv_lconst (v := 1) hx hb dX2_begin_31 (by decide) ?_
              refine va_last hx hb hK hP hD hS 1 3 rfl rfl (x_in (by decide) (by decide)) dX2_begin_32 (fun H locs hP hD hS => ?_)
              have hP : va_P D vwCl [(h0, .inr (1, [.ref a0, .ref a1, .ref a2, .ref a3, .int k, .int 0, .int 0])), (a0, .inl (y 3, 8, .inr (.inl (vp_updL (vp_updL (vp_updL (vp_updL (vp_updL (vp_updL f (Int32.toNatClampNeg 0) 1) (Int32.toNatClampNeg 1) 1) (Int32.toNatClampNeg 2) 1) (Int32.toNatClampNeg 3) 1) (Int32.toNatClampNeg 4) 1) (Int32.toNatClampNeg 5) 1))))] H := hP
              have hD : va_D A [(h0, .inr (1, [.ref a0, .ref a1, .ref a2, .ref a3, .int k, .int 0, .int 0])), (a0, .inl (y 3, 8, .inr (.inl (vp_updL (vp_updL (vp_updL (vp_updL (vp_updL (vp_updL f (Int32.toNatClampNeg 0) 1) (Int32.toNatClampNeg 1) 1) (Int32.toNatClampNeg 2) 1) (Int32.toNatClampNeg 3) 1) (Int32.toNatClampNeg 4) 1) (Int32.toNatClampNeg 5) 1))))] := hD
              refine lv_iinc (v := 6) (lv' := [(2, .int 6), (0, .ref h0), (1, .int k)]) hx hb dX2_begin_33 hl (k := 0) rfl (by decide) (by decide) rfl (fun ls hl => ?_)
              refine lv_goto (tgt := 17) hx hb dX2_begin_36 (by decide) ?_
              refine lv_iload_n hx hb dX2_begin_17 rfl (lv_at hl 0 rfl) ?_
              refine lv_aload_n hx hb dX2_begin_18 rfl (lv_at hl 1 rfl) ?_
              refine va_get (D := D) (ci := 1) (v := .ref a0) (C := RX2) (T := TX2) (N := 7) hx hb hts inX2 hown hK hP 0 rfl rfl 0 (by decide) fl9 (fun _ h9 => h9) rfl dX2_begin_19 ?_
              refine va_alen hx hb hK hP 1 3 rfl rfl (v := 8) rfl dX2_begin_22 ?_
              refine lv_icmp_ge (tgt := 39) hx hb dX2_begin_23 (by decide) (fun c_7 => ?_) (fun c_7 => ?_)
              · exact absurd c_7 (by decide)
              · refine lv_aload_n hx hb dX2_begin_26 rfl (lv_at hl 1 rfl) ?_
                refine va_get (D := D) (ci := 1) (v := .ref a0) (C := RX2) (T := TX2) (N := 7) hx hb hts inX2 hown hK hP 0 rfl rfl 0 (by decide) fl9 (fun _ h9 => h9) rfl dX2_begin_27 ?_
                refine lv_iload_n hx hb dX2_begin_30 rfl (lv_at hl 0 rfl) ?_
                refine lv_lconst (v := 1) hx hb dX2_begin_31 (by decide) ?_
                refine va_last hx hb hK hP hD hS 1 3 rfl rfl (x_in (by decide) (by decide)) dX2_begin_32 (fun H locs hP hD hS => ?_)
                have hP : va_P D vwCl [(h0, .inr (1, [.ref a0, .ref a1, .ref a2, .ref a3, .int k, .int 0, .int 0])), (a0, .inl (y 3, 8, .inr (.inl (vp_updL (vp_updL (vp_updL (vp_updL (vp_updL (vp_updL (vp_updL f (Int32.toNatClampNeg 0) 1) (Int32.toNatClampNeg 1) 1) (Int32.toNatClampNeg 2) 1) (Int32.toNatClampNeg 3) 1) (Int32.toNatClampNeg 4) 1) (Int32.toNatClampNeg 5) 1) (Int32.toNatClampNeg 6) 1))))] H := hP
                have hD : va_D A [(h0, .inr (1, [.ref a0, .ref a1, .ref a2, .ref a3, .int k, .int 0, .int 0])), (a0, .inl (y 3, 8, .inr (.inl (vp_updL (vp_updL (vp_updL (vp_updL (vp_updL (vp_updL (vp_updL f (Int32.toNatClampNeg 0) 1) (Int32.toNatClampNeg 1) 1) (Int32.toNatClampNeg 2) 1) (Int32.toNatClampNeg 3) 1) (Int32.toNatClampNeg 4) 1) (Int32.toNatClampNeg 5) 1) (Int32.toNatClampNeg 6) 1))))] := hD
                refine lv_iinc (v := 7) (lv' := [(2, .int 7), (0, .ref h0), (1, .int k)]) hx hb dX2_begin_33 hl (k := 0) rfl (by decide) (by decide) rfl (fun ls hl => ?_)
                refine lv_goto (tgt := 17) hx hb dX2_begin_36 (by decide) ?_
                refine lv_iload_n hx hb dX2_begin_17 rfl (lv_at hl 0 rfl) ?_
                refine lv_aload_n hx hb dX2_begin_18 rfl (lv_at hl 1 rfl) ?_
                refine va_get (D := D) (ci := 1) (v := .ref a0) (C := RX2) (T := TX2) (N := 7) hx hb hts inX2 hown hK hP 0 rfl rfl 0 (by decide) fl9 (fun _ h9 => h9) rfl dX2_begin_19 ?_
                refine va_alen hx hb hK hP 1 3 rfl rfl (v := 8) rfl dX2_begin_22 ?_
                refine lv_icmp_ge (tgt := 39) hx hb dX2_begin_23 (by decide) (fun c_8 => ?_) (fun c_8 => ?_)
                · exact absurd c_8 (by decide)
                · refine lv_aload_n hx hb dX2_begin_26 rfl (lv_at hl 1 rfl) ?_
                  refine va_get (D := D) (ci := 1) (v := .ref a0) (C := RX2) (T := TX2) (N := 7) hx hb hts inX2 hown hK hP 0 rfl rfl 0 (by decide) fl9 (fun _ h9 => h9) rfl dX2_begin_27 ?_
                  refine lv_iload_n hx hb dX2_begin_30 rfl (lv_at hl 0 rfl) ?_
                  refine lv_lconst (v := 1) hx hb dX2_begin_31 (by decide) ?_
                  refine va_last hx hb hK hP hD hS 1 3 rfl rfl (x_in (by decide) (by decide)) dX2_begin_32 (fun H locs hP hD hS => ?_)
                  have hP : va_P D vwCl [(h0, .inr (1, [.ref a0, .ref a1, .ref a2, .ref a3, .int k, .int 0, .int 0])), (a0, .inl (y 3, 8, .inr (.inl (vp_updL (vp_updL (vp_updL (vp_updL (vp_updL (vp_updL (vp_updL (vp_updL f (Int32.toNatClampNeg 0) 1) (Int32.toNatClampNeg 1) 1) (Int32.toNatClampNeg 2) 1) (Int32.toNatClampNeg 3) 1) (Int32.toNatClampNeg 4) 1) (Int32.toNatClampNeg 5) 1) (Int32.toNatClampNeg 6) 1) (Int32.toNatClampNeg 7) 1))))] H := hP
                  have hD : va_D A [(h0, .inr (1, [.ref a0, .ref a1, .ref a2, .ref a3, .int k, .int 0, .int 0])), (a0, .inl (y 3, 8, .inr (.inl (vp_updL (vp_updL (vp_updL (vp_updL (vp_updL (vp_updL (vp_updL (vp_updL f (Int32.toNatClampNeg 0) 1) (Int32.toNatClampNeg 1) 1) (Int32.toNatClampNeg 2) 1) (Int32.toNatClampNeg 3) 1) (Int32.toNatClampNeg 4) 1) (Int32.toNatClampNeg 5) 1) (Int32.toNatClampNeg 6) 1) (Int32.toNatClampNeg 7) 1))))] := hD
                  refine lv_iinc (v := 8) (lv' := [(2, .int 8), (0, .ref h0), (1, .int k)]) hx hb dX2_begin_33 hl (k := 0) rfl (by decide) (by decide) rfl (fun ls hl => ?_)
                  refine lv_goto (tgt := 17) hx hb dX2_begin_36 (by decide) ?_
                  refine lv_iload_n hx hb dX2_begin_17 rfl (lv_at hl 0 rfl) ?_
                  refine lv_aload_n hx hb dX2_begin_18 rfl (lv_at hl 1 rfl) ?_
                  refine va_get (D := D) (ci := 1) (v := .ref a0) (C := RX2) (T := TX2) (N := 7) hx hb hts inX2 hown hK hP 0 rfl rfl 0 (by decide) fl9 (fun _ h9 => h9) rfl dX2_begin_19 ?_
                  refine va_alen hx hb hK hP 1 3 rfl rfl (v := 8) rfl dX2_begin_22 ?_
                  refine lv_icmp_ge (tgt := 39) hx hb dX2_begin_23 (by decide) (fun c_9 => ?_) (fun c_9 => ?_)
                  · exact x_vret (u := (vp_updL (vp_updL (vp_updL (vp_updL (vp_updL (vp_updL (vp_updL (vp_updL f (Int32.toNatClampNeg 0) 1) (Int32.toNatClampNeg 1) 1) (Int32.toNatClampNeg 2) 1) (Int32.toNatClampNeg 3) 1) (Int32.toNatClampNeg 4) 1) (Int32.toNatClampNeg 5) 1) (Int32.toNatClampNeg 6) 1) (Int32.toNatClampNeg 7) 1)) hx hb hr (by intro i hi; rcases (show i = 0 ∨ i = 1 ∨ i = 2 ∨ i = 3 ∨ i = 4 ∨ i = 5 ∨ i = 6 ∨ i = 7 by omega) with rfl | rfl | rfl | rfl | rfl | rfl | rfl | rfl <;> rfl) hP hD hK hS [0, 1] rfl (by decide) dX2_begin_39 hlocks hQ
                  · exact absurd (by decide) c_9

def v_c_Inputs_stepBack0 : List Cond := .code yX2_stepBack cX2_stepBack 1 (some .boolean) :: ([.fieldLink RX2 29 "SlopeRunner$Inputs" "done" "I"] ++ wsX20)
set_option maxHeartbeats 4000000 in
set_option maxRecDepth 100000 in
theorem c_Inputs_stepBack0 (l : Launch) (D : va_G) (y : Nat → ClassId) (sz : Nat) (h0 a0 a1 a2 a3 : Nat) (cnt kn : Int32) : Met l yX2_stepBack v_c_Inputs_stepBack0 ({ frames := 0, cells := 0, slots := 0, locals := 0 } : Room) (va_Pc [.ref h0] (xPre D (xT y) [(h0, .inr (1, [.ref a0, .ref a1, .ref a2, .ref a3, .int cnt, .int 0, .int kn]))] sz)) (va_Qi (fun (r : Int32) (_ : Unit) => r = 0) (fun (u : Unit) => xB D (xT y) (va_A [(h0, .inr (1, [.ref a0, .ref a1, .ref a2, .ref a3, .int cnt, .int 0, .int kn]))] sz) [(h0, .inr (1, [.ref a0, .ref a1, .ref a2, .ref a3, .int cnt, .int 0, .int kn]))]) (va_A [(h0, .inr (1, [.ref a0, .ref a1, .ref a2, .ref a3, .int cnt, .int 0, .int kn]))] sz)) 0 0 (va_A [(h0, .inr (1, [.ref a0, .ref a1, .ref a2, .ref a3, .int cnt, .int 0, .int kn]))] sz) := by
  refine x_meti (cc := cX2_stepBack) (maxL := 1) (by decide) rfl (Nat.le_of_ble_eq_true rfl) ?_
  intro p e s m below meth c A H locs Q hx hb hml hown hts hr hlocks hmn hA hP hK hD hS ls hl hQ
  have hl : lv_has ls 1 [(0, .ref h0)] := hl
  have fl29 := hts (.fieldLink RX2 29 "SlopeRunner$Inputs" "done" "I") (by decide +kernel)
  have inX2 : ∀ w ∈ wsX20, w ∈ v_c_Inputs_stepBack0 := (fun w h => List.mem_cons_of_mem _ (List.mem_append_right _ h))
  refine lv_aload_n hx hb dX2_stepBack_0 rfl (lv_at hl 0 rfl) ?_
  refine va_get (D := D) (ci := 1) (v := .int 0) (C := RX2) (T := TX2) (N := 7) hx hb hts inX2 hown hK hP 0 rfl rfl 5 (by decide) fl29 (fun _ h9 => h9) rfl dX2_stepBack_1 ?_
  refine lv_if_gt (tgt := 9) hx hb dX2_stepBack_4 (by decide) (fun c_1 => ?_) (fun c_1 => ?_)
  · exact absurd c_1 (by decide)
  · refine lv_iconst (v := 0) hx hb dX2_stepBack_7 (by decide) ?_
    exact x_zret (v := 0) (u := ()) hx hb hr rfl rfl hP hD hK hS [0] rfl (by decide) dX2_stepBack_8 hlocks hQ

def v_c_Inputs_stepOn0 : List Cond := .code yX2_stepOn cX2_stepOn 1 (some .boolean) :: ([.fieldLink RX2 29 "SlopeRunner$Inputs" "done" "I", .fieldLink RX2 32 "SlopeRunner$Inputs" "known" "I"] ++ wsX20)
set_option maxHeartbeats 4000000 in
set_option maxRecDepth 100000 in
theorem c_Inputs_stepOn0 (l : Launch) (D : va_G) (y : Nat → ClassId) (sz : Nat) (h0 a0 a1 a2 a3 : Nat) (cnt : Int32) : Met l yX2_stepOn v_c_Inputs_stepOn0 ({ frames := 0, cells := 0, slots := 0, locals := 0 } : Room) (va_Pc [.ref h0] (xPre D (xT y) [(h0, .inr (1, [.ref a0, .ref a1, .ref a2, .ref a3, .int cnt, .int 0, .int 0]))] sz)) (va_Qi (fun (r : Int32) (_ : Unit) => r = 0) (fun (u : Unit) => xB D (xT y) (va_A [(h0, .inr (1, [.ref a0, .ref a1, .ref a2, .ref a3, .int cnt, .int 0, .int 0]))] sz) [(h0, .inr (1, [.ref a0, .ref a1, .ref a2, .ref a3, .int cnt, .int 0, .int 0]))]) (va_A [(h0, .inr (1, [.ref a0, .ref a1, .ref a2, .ref a3, .int cnt, .int 0, .int 0]))] sz)) 0 0 (va_A [(h0, .inr (1, [.ref a0, .ref a1, .ref a2, .ref a3, .int cnt, .int 0, .int 0]))] sz) := by
  refine x_meti (cc := cX2_stepOn) (maxL := 1) (by decide) rfl (Nat.le_of_ble_eq_true rfl) ?_
  intro p e s m below meth c A H locs Q hx hb hml hown hts hr hlocks hmn hA hP hK hD hS ls hl hQ
  have hl : lv_has ls 1 [(0, .ref h0)] := hl
  have fl29 := hts (.fieldLink RX2 29 "SlopeRunner$Inputs" "done" "I") (by decide +kernel)
  have inX2 : ∀ w ∈ wsX20, w ∈ v_c_Inputs_stepOn0 := (fun w h => List.mem_cons_of_mem _ (List.mem_append_right _ h))
  have fl32 := hts (.fieldLink RX2 32 "SlopeRunner$Inputs" "known" "I") (by decide +kernel)
  refine lv_aload_n hx hb dX2_stepOn_0 rfl (lv_at hl 0 rfl) ?_
  refine va_get (D := D) (ci := 1) (v := .int 0) (C := RX2) (T := TX2) (N := 7) hx hb hts inX2 hown hK hP 0 rfl rfl 5 (by decide) fl29 (fun _ h9 => h9) rfl dX2_stepOn_1 ?_
  refine lv_aload_n hx hb dX2_stepOn_4 rfl (lv_at hl 0 rfl) ?_
  refine va_get (D := D) (ci := 1) (v := .int 0) (C := RX2) (T := TX2) (N := 7) hx hb hts inX2 hown hK hP 0 rfl rfl 6 (by decide) fl32 (fun _ h9 => h9) rfl dX2_stepOn_5 ?_
  refine lv_icmp_lt (tgt := 13) hx hb dX2_stepOn_8 (by decide) (fun c_1 => ?_) (fun c_1 => ?_)
  · exact absurd c_1 (by decide)
  · refine lv_iconst (v := 0) hx hb dX2_stepOn_11 (by decide) ?_
    exact x_zret (v := 0) (u := ()) hx hb hr rfl rfl hP hD hK hS [0] rfl (by decide) dX2_stepOn_12 hlocks hQ

def v_c_Program_clear : List Cond := .code yX6_clear cX6_clear 1 none :: ([.fieldLink RX6 33 "SlopeRunner$Program" "inputs" "I", .fieldLink RX6 37 "SlopeRunner$Program" "rows" "I", .fieldLink RX6 40 "SlopeRunner$Program" "vars" "I", .fieldLink RX6 43 "SlopeRunner$Program" "statements" "I", .fieldLink RX6 46 "SlopeRunner$Program" "numbers" "I", .fieldLink RX6 49 "SlopeRunner$Program" "names" "I", .fieldLink RX6 52 "SlopeRunner$Program" "length" "I"] ++ wsX60)
set_option maxHeartbeats 4000000 in
set_option maxRecDepth 100000 in
theorem c_Program_clear (l : Launch) (D : va_G) (y : Nat → ClassId) (sz : Nat) (h0 a0 a1 a2 a3 a4 a5 : Nat) (ni nw nv ns nn ln nm : Int32) : Met l yX6_clear v_c_Program_clear ({ frames := 0, cells := 0, slots := 0, locals := 0 } : Room) (va_Pc [.ref h0] (xPre D (xT y) [(h0, .inr (5, [.int ni, .int nw, .int nv, .int ns, .int nn, .int ln, .ref a0, .int nm, .ref a1, .ref a2, .ref a3, .ref a4, .ref a5]))] sz)) (va_Qv (fun (_ : Unit) => True) (fun (u : Unit) => xB D (xT y) (va_A [(h0, .inr (5, [.int ni, .int nw, .int nv, .int ns, .int nn, .int ln, .ref a0, .int nm, .ref a1, .ref a2, .ref a3, .ref a4, .ref a5]))] sz) [(h0, .inr (5, [.int 0, .int 0, .int 0, .int 0, .int 0, .int 0, .ref a0, .int 0, .ref a1, .ref a2, .ref a3, .ref a4, .ref a5]))]) (va_A [(h0, .inr (5, [.int ni, .int nw, .int nv, .int ns, .int nn, .int ln, .ref a0, .int nm, .ref a1, .ref a2, .ref a3, .ref a4, .ref a5]))] sz)) 0 0 (va_A [(h0, .inr (5, [.int ni, .int nw, .int nv, .int ns, .int nn, .int ln, .ref a0, .int nm, .ref a1, .ref a2, .ref a3, .ref a4, .ref a5]))] sz) := by
  refine x_metv (cc := cX6_clear) (maxL := 1) (by decide) rfl (Nat.le_of_ble_eq_true rfl) ?_
  intro p e s m below meth c A H locs Q hx hb hml hown hts hr hlocks hmn hA hP hK hD hS ls hl hQ
  have hl : lv_has ls 1 [(0, .ref h0)] := hl
  have fl33 := hts (.fieldLink RX6 33 "SlopeRunner$Program" "inputs" "I") (by decide +kernel)
  have inX6 : ∀ w ∈ wsX60, w ∈ v_c_Program_clear := (fun w h => List.mem_cons_of_mem _ (List.mem_append_right _ h))
  have fl37 := hts (.fieldLink RX6 37 "SlopeRunner$Program" "rows" "I") (by decide +kernel)
  have fl40 := hts (.fieldLink RX6 40 "SlopeRunner$Program" "vars" "I") (by decide +kernel)
  have fl43 := hts (.fieldLink RX6 43 "SlopeRunner$Program" "statements" "I") (by decide +kernel)
  have fl46 := hts (.fieldLink RX6 46 "SlopeRunner$Program" "numbers" "I") (by decide +kernel)
  have fl49 := hts (.fieldLink RX6 49 "SlopeRunner$Program" "names" "I") (by decide +kernel)
  have fl52 := hts (.fieldLink RX6 52 "SlopeRunner$Program" "length" "I") (by decide +kernel)
  refine lv_aload_n hx hb dX6_clear_0 rfl (lv_at hl 0 rfl) ?_
  refine lv_iconst (v := 0) hx hb dX6_clear_1 (by decide) ?_
  refine va_put (D := D) (ci := 5) (v := .int 0) (ty := .int) (C := RX6) (T := TX6) (N := 13) hx hb hts inX6 tyX6 tyX6_ok nmX6 hown hK hP hD hS 0 rfl rfl 0 (by decide) fl33 (fun _ h9 => h9) rfl (by decide +kernel) rfl rfl (Nat.le_of_ble_eq_true rfl) dX6_clear_2 (fun H locs hP hD hS => ?_)
  have hP : va_P D vwCl [(h0, .inr (5, [.int 0, .int nw, .int nv, .int ns, .int nn, .int ln, .ref a0, .int nm, .ref a1, .ref a2, .ref a3, .ref a4, .ref a5]))] H := hP
  have hD : va_D A [(h0, .inr (5, [.int 0, .int nw, .int nv, .int ns, .int nn, .int ln, .ref a0, .int nm, .ref a1, .ref a2, .ref a3, .ref a4, .ref a5]))] := hD
  refine lv_aload_n hx hb dX6_clear_5 rfl (lv_at hl 0 rfl) ?_
  refine lv_iconst (v := 0) hx hb dX6_clear_6 (by decide) ?_
  refine va_put (D := D) (ci := 5) (v := .int 0) (ty := .int) (C := RX6) (T := TX6) (N := 13) hx hb hts inX6 tyX6 tyX6_ok nmX6 hown hK hP hD hS 0 rfl rfl 1 (by decide) fl37 (fun _ h9 => h9) rfl (by decide +kernel) rfl rfl (Nat.le_of_ble_eq_true rfl) dX6_clear_7 (fun H locs hP hD hS => ?_)
  have hP : va_P D vwCl [(h0, .inr (5, [.int 0, .int 0, .int nv, .int ns, .int nn, .int ln, .ref a0, .int nm, .ref a1, .ref a2, .ref a3, .ref a4, .ref a5]))] H := hP
  have hD : va_D A [(h0, .inr (5, [.int 0, .int 0, .int nv, .int ns, .int nn, .int ln, .ref a0, .int nm, .ref a1, .ref a2, .ref a3, .ref a4, .ref a5]))] := hD
  refine lv_aload_n hx hb dX6_clear_10 rfl (lv_at hl 0 rfl) ?_
  refine lv_iconst (v := 0) hx hb dX6_clear_11 (by decide) ?_
  refine va_put (D := D) (ci := 5) (v := .int 0) (ty := .int) (C := RX6) (T := TX6) (N := 13) hx hb hts inX6 tyX6 tyX6_ok nmX6 hown hK hP hD hS 0 rfl rfl 2 (by decide) fl40 (fun _ h9 => h9) rfl (by decide +kernel) rfl rfl (Nat.le_of_ble_eq_true rfl) dX6_clear_12 (fun H locs hP hD hS => ?_)
  have hP : va_P D vwCl [(h0, .inr (5, [.int 0, .int 0, .int 0, .int ns, .int nn, .int ln, .ref a0, .int nm, .ref a1, .ref a2, .ref a3, .ref a4, .ref a5]))] H := hP
  have hD : va_D A [(h0, .inr (5, [.int 0, .int 0, .int 0, .int ns, .int nn, .int ln, .ref a0, .int nm, .ref a1, .ref a2, .ref a3, .ref a4, .ref a5]))] := hD
  refine lv_aload_n hx hb dX6_clear_15 rfl (lv_at hl 0 rfl) ?_
  refine lv_iconst (v := 0) hx hb dX6_clear_16 (by decide) ?_
  refine va_put (D := D) (ci := 5) (v := .int 0) (ty := .int) (C := RX6) (T := TX6) (N := 13) hx hb hts inX6 tyX6 tyX6_ok nmX6 hown hK hP hD hS 0 rfl rfl 3 (by decide) fl43 (fun _ h9 => h9) rfl (by decide +kernel) rfl rfl (Nat.le_of_ble_eq_true rfl) dX6_clear_17 (fun H locs hP hD hS => ?_)
  have hP : va_P D vwCl [(h0, .inr (5, [.int 0, .int 0, .int 0, .int 0, .int nn, .int ln, .ref a0, .int nm, .ref a1, .ref a2, .ref a3, .ref a4, .ref a5]))] H := hP
  have hD : va_D A [(h0, .inr (5, [.int 0, .int 0, .int 0, .int 0, .int nn, .int ln, .ref a0, .int nm, .ref a1, .ref a2, .ref a3, .ref a4, .ref a5]))] := hD
  refine lv_aload_n hx hb dX6_clear_20 rfl (lv_at hl 0 rfl) ?_
  refine lv_iconst (v := 0) hx hb dX6_clear_21 (by decide) ?_
  refine va_put (D := D) (ci := 5) (v := .int 0) (ty := .int) (C := RX6) (T := TX6) (N := 13) hx hb hts inX6 tyX6 tyX6_ok nmX6 hown hK hP hD hS 0 rfl rfl 4 (by decide) fl46 (fun _ h9 => h9) rfl (by decide +kernel) rfl rfl (Nat.le_of_ble_eq_true rfl) dX6_clear_22 (fun H locs hP hD hS => ?_)
  have hP : va_P D vwCl [(h0, .inr (5, [.int 0, .int 0, .int 0, .int 0, .int 0, .int ln, .ref a0, .int nm, .ref a1, .ref a2, .ref a3, .ref a4, .ref a5]))] H := hP
  have hD : va_D A [(h0, .inr (5, [.int 0, .int 0, .int 0, .int 0, .int 0, .int ln, .ref a0, .int nm, .ref a1, .ref a2, .ref a3, .ref a4, .ref a5]))] := hD
  refine lv_aload_n hx hb dX6_clear_25 rfl (lv_at hl 0 rfl) ?_
  refine lv_iconst (v := 0) hx hb dX6_clear_26 (by decide) ?_
  refine va_put (D := D) (ci := 5) (v := .int 0) (ty := .int) (C := RX6) (T := TX6) (N := 13) hx hb hts inX6 tyX6 tyX6_ok nmX6 hown hK hP hD hS 0 rfl rfl 7 (by decide) fl49 (fun _ h9 => h9) rfl (by decide +kernel) rfl rfl (Nat.le_of_ble_eq_true rfl) dX6_clear_27 (fun H locs hP hD hS => ?_)
  have hP : va_P D vwCl [(h0, .inr (5, [.int 0, .int 0, .int 0, .int 0, .int 0, .int ln, .ref a0, .int 0, .ref a1, .ref a2, .ref a3, .ref a4, .ref a5]))] H := hP
  have hD : va_D A [(h0, .inr (5, [.int 0, .int 0, .int 0, .int 0, .int 0, .int ln, .ref a0, .int 0, .ref a1, .ref a2, .ref a3, .ref a4, .ref a5]))] := hD
  refine lv_aload_n hx hb dX6_clear_30 rfl (lv_at hl 0 rfl) ?_
  refine lv_iconst (v := 0) hx hb dX6_clear_31 (by decide) ?_
  refine va_put (D := D) (ci := 5) (v := .int 0) (ty := .int) (C := RX6) (T := TX6) (N := 13) hx hb hts inX6 tyX6 tyX6_ok nmX6 hown hK hP hD hS 0 rfl rfl 5 (by decide) fl52 (fun _ h9 => h9) rfl (by decide +kernel) rfl rfl (Nat.le_of_ble_eq_true rfl) dX6_clear_32 (fun H locs hP hD hS => ?_)
  have hP : va_P D vwCl [(h0, .inr (5, [.int 0, .int 0, .int 0, .int 0, .int 0, .int 0, .ref a0, .int 0, .ref a1, .ref a2, .ref a3, .ref a4, .ref a5]))] H := hP
  have hD : va_D A [(h0, .inr (5, [.int 0, .int 0, .int 0, .int 0, .int 0, .int 0, .ref a0, .int 0, .ref a1, .ref a2, .ref a3, .ref a4, .ref a5]))] := hD
  exact x_vret (u := ()) hx hb hr trivial hP hD hK hS [0] rfl (by decide) dX6_clear_35 hlocks hQ

def v_c_Program_whatAt0 : List Cond := .code yX6_whatAt cX6_whatAt 2 (some .int) :: ([.fieldLink RX6 52 "SlopeRunner$Program" "length" "I"] ++ wsX60)
set_option maxHeartbeats 4000000 in
set_option maxRecDepth 100000 in
theorem c_Program_whatAt0 (l : Launch) (D : va_G) (y : Nat → ClassId) (sz : Nat) (h0 a0 a1 a2 a3 a4 a5 : Nat) (ni nw nv ns nn nm : Int32) (k : Int32) : Met l yX6_whatAt v_c_Program_whatAt0 ({ frames := 0, cells := 0, slots := 0, locals := 0 } : Room) (va_Pc [.ref h0, .int k] (xPre D (xT y) [(h0, .inr (5, [.int ni, .int nw, .int nv, .int ns, .int nn, .int 0, .ref a0, .int nm, .ref a1, .ref a2, .ref a3, .ref a4, .ref a5]))] sz)) (va_Qi (fun (r : Int32) (_ : Unit) => r = -1) (fun (u : Unit) => xB D (xT y) (va_A [(h0, .inr (5, [.int ni, .int nw, .int nv, .int ns, .int nn, .int 0, .ref a0, .int nm, .ref a1, .ref a2, .ref a3, .ref a4, .ref a5]))] sz) [(h0, .inr (5, [.int ni, .int nw, .int nv, .int ns, .int nn, .int 0, .ref a0, .int nm, .ref a1, .ref a2, .ref a3, .ref a4, .ref a5]))]) (va_A [(h0, .inr (5, [.int ni, .int nw, .int nv, .int ns, .int nn, .int 0, .ref a0, .int nm, .ref a1, .ref a2, .ref a3, .ref a4, .ref a5]))] sz)) 0 0 (va_A [(h0, .inr (5, [.int ni, .int nw, .int nv, .int ns, .int nn, .int 0, .ref a0, .int nm, .ref a1, .ref a2, .ref a3, .ref a4, .ref a5]))] sz) := by
  refine x_meti (cc := cX6_whatAt) (maxL := 2) (by decide) rfl (Nat.le_of_ble_eq_true rfl) ?_
  intro p e s m below meth c A H locs Q hx hb hml hown hts hr hlocks hmn hA hP hK hD hS ls hl hQ
  have hl : lv_has ls 2 [(0, .ref h0), (1, .int k)] := hl
  have fl52 := hts (.fieldLink RX6 52 "SlopeRunner$Program" "length" "I") (by decide +kernel)
  have inX6 : ∀ w ∈ wsX60, w ∈ v_c_Program_whatAt0 := (fun w h => List.mem_cons_of_mem _ (List.mem_append_right _ h))
  refine lv_iload_n hx hb dX6_whatAt_0 rfl (lv_at hl 1 rfl) ?_
  refine lv_if_lt (tgt := 24) hx hb dX6_whatAt_1 (by decide) (fun c_1 => ?_) (fun c_1 => ?_)
  · refine lv_iconst (v := (-1)) hx hb dX6_whatAt_24 (by decide) ?_
    exact x_iret (v := (-1)) (u := ()) hx hb hr rfl hP hD hK hS [0] rfl (by decide) dX6_whatAt_25 hlocks hQ
  · refine lv_iload_n hx hb dX6_whatAt_4 rfl (lv_at hl 1 rfl) ?_
    refine lv_aload_n hx hb dX6_whatAt_5 rfl (lv_at hl 0 rfl) ?_
    refine va_get (D := D) (ci := 5) (v := .int 0) (C := RX6) (T := TX6) (N := 13) hx hb hts inX6 hown hK hP 0 rfl rfl 5 (by decide) fl52 (fun _ h9 => h9) rfl dX6_whatAt_6 ?_
    refine lv_icmp_ge (tgt := 24) hx hb dX6_whatAt_9 (by decide) (fun c_2 => ?_) (fun c_2 => ?_)
    · refine lv_iconst (v := (-1)) hx hb dX6_whatAt_24 (by decide) ?_
      exact x_iret (v := (-1)) (u := ()) hx hb hr rfl hP hD hK hS [0] rfl (by decide) dX6_whatAt_25 hlocks hQ
    · exact absurd (by simp only [x_lt, x_le, Int32.reduceToInt] at *; omega) c_2

def v_c_Program_argumentAt0 : List Cond := .code yX6_argumentAt cX6_argumentAt 2 (some .int) :: ([.fieldLink RX6 52 "SlopeRunner$Program" "length" "I"] ++ wsX60)
set_option maxHeartbeats 4000000 in
set_option maxRecDepth 100000 in
theorem c_Program_argumentAt0 (l : Launch) (D : va_G) (y : Nat → ClassId) (sz : Nat) (h0 a0 a1 a2 a3 a4 a5 : Nat) (ni nw nv ns nn nm : Int32) (k : Int32) : Met l yX6_argumentAt v_c_Program_argumentAt0 ({ frames := 0, cells := 0, slots := 0, locals := 0 } : Room) (va_Pc [.ref h0, .int k] (xPre D (xT y) [(h0, .inr (5, [.int ni, .int nw, .int nv, .int ns, .int nn, .int 0, .ref a0, .int nm, .ref a1, .ref a2, .ref a3, .ref a4, .ref a5]))] sz)) (va_Qi (fun (r : Int32) (_ : Unit) => r = 0) (fun (u : Unit) => xB D (xT y) (va_A [(h0, .inr (5, [.int ni, .int nw, .int nv, .int ns, .int nn, .int 0, .ref a0, .int nm, .ref a1, .ref a2, .ref a3, .ref a4, .ref a5]))] sz) [(h0, .inr (5, [.int ni, .int nw, .int nv, .int ns, .int nn, .int 0, .ref a0, .int nm, .ref a1, .ref a2, .ref a3, .ref a4, .ref a5]))]) (va_A [(h0, .inr (5, [.int ni, .int nw, .int nv, .int ns, .int nn, .int 0, .ref a0, .int nm, .ref a1, .ref a2, .ref a3, .ref a4, .ref a5]))] sz)) 0 0 (va_A [(h0, .inr (5, [.int ni, .int nw, .int nv, .int ns, .int nn, .int 0, .ref a0, .int nm, .ref a1, .ref a2, .ref a3, .ref a4, .ref a5]))] sz) := by
  refine x_meti (cc := cX6_argumentAt) (maxL := 2) (by decide) rfl (Nat.le_of_ble_eq_true rfl) ?_
  intro p e s m below meth c A H locs Q hx hb hml hown hts hr hlocks hmn hA hP hK hD hS ls hl hQ
  have hl : lv_has ls 2 [(0, .ref h0), (1, .int k)] := hl
  have fl52 := hts (.fieldLink RX6 52 "SlopeRunner$Program" "length" "I") (by decide +kernel)
  have inX6 : ∀ w ∈ wsX60, w ∈ v_c_Program_argumentAt0 := (fun w h => List.mem_cons_of_mem _ (List.mem_append_right _ h))
  refine lv_iload_n hx hb dX6_argumentAt_0 rfl (lv_at hl 1 rfl) ?_
  refine lv_if_lt (tgt := 25) hx hb dX6_argumentAt_1 (by decide) (fun c_1 => ?_) (fun c_1 => ?_)
  · refine lv_iconst (v := 0) hx hb dX6_argumentAt_25 (by decide) ?_
    exact x_iret (v := 0) (u := ()) hx hb hr rfl hP hD hK hS [0] rfl (by decide) dX6_argumentAt_26 hlocks hQ
  · refine lv_iload_n hx hb dX6_argumentAt_4 rfl (lv_at hl 1 rfl) ?_
    refine lv_aload_n hx hb dX6_argumentAt_5 rfl (lv_at hl 0 rfl) ?_
    refine va_get (D := D) (ci := 5) (v := .int 0) (C := RX6) (T := TX6) (N := 13) hx hb hts inX6 hown hK hP 0 rfl rfl 5 (by decide) fl52 (fun _ h9 => h9) rfl dX6_argumentAt_6 ?_
    refine lv_icmp_ge (tgt := 25) hx hb dX6_argumentAt_9 (by decide) (fun c_2 => ?_) (fun c_2 => ?_)
    · refine lv_iconst (v := 0) hx hb dX6_argumentAt_25 (by decide) ?_
      exact x_iret (v := 0) (u := ()) hx hb hr rfl hP hD hK hS [0] rfl (by decide) dX6_argumentAt_26 hlocks hQ
    · exact absurd (by simp only [x_lt, x_le, Int32.reduceToInt] at *; omega) c_2

def v_c_Parser_faultKind : List Cond := .code yX5_faultKind cX5_faultKind 1 (some .int) :: ([.fieldLink RX5 22 "SlopeRunner$Parser" "kindOfFault" "I"] ++ wsX50)
set_option maxHeartbeats 4000000 in
set_option maxRecDepth 100000 in
theorem c_Parser_faultKind (l : Launch) (D : va_G) (y : Nat → ClassId) (sz : Nat) (h0 a0 a1 : Nat) (pa pk po pf pb pp : Int32) : Met l yX5_faultKind v_c_Parser_faultKind ({ frames := 0, cells := 0, slots := 0, locals := 0 } : Room) (va_Pc [.ref h0] (xPre D (xT y) [(h0, .inr (4, [.ref a0, .ref a1, .int pa, .int pk, .int po, .int pf, .int pb, .int pp]))] sz)) (va_Qi (fun (r : Int32) (_ : Unit) => r = pf) (fun (u : Unit) => xB D (xT y) (va_A [(h0, .inr (4, [.ref a0, .ref a1, .int pa, .int pk, .int po, .int pf, .int pb, .int pp]))] sz) [(h0, .inr (4, [.ref a0, .ref a1, .int pa, .int pk, .int po, .int pf, .int pb, .int pp]))]) (va_A [(h0, .inr (4, [.ref a0, .ref a1, .int pa, .int pk, .int po, .int pf, .int pb, .int pp]))] sz)) 0 0 (va_A [(h0, .inr (4, [.ref a0, .ref a1, .int pa, .int pk, .int po, .int pf, .int pb, .int pp]))] sz) := by
  refine x_meti (cc := cX5_faultKind) (maxL := 1) (by decide) rfl (Nat.le_of_ble_eq_true rfl) ?_
  intro p e s m below meth c A H locs Q hx hb hml hown hts hr hlocks hmn hA hP hK hD hS ls hl hQ
  have hl : lv_has ls 1 [(0, .ref h0)] := hl
  have fl22 := hts (.fieldLink RX5 22 "SlopeRunner$Parser" "kindOfFault" "I") (by decide +kernel)
  have inX5 : ∀ w ∈ wsX50, w ∈ v_c_Parser_faultKind := (fun w h => List.mem_cons_of_mem _ (List.mem_append_right _ h))
  refine lv_aload_n hx hb dX5_faultKind_0 rfl (lv_at hl 0 rfl) ?_
  refine va_get (D := D) (ci := 4) (v := .int pf) (C := RX5) (T := TX5) (N := 8) hx hb hts inX5 hown hK hP 0 rfl rfl 5 (by decide) fl22 (fun _ h9 => h9) rfl dX5_faultKind_1 ?_
  exact x_iret (v := pf) (u := ()) hx hb hr rfl hP hD hK hS [0] rfl (by decide) dX5_faultKind_4 hlocks hQ

def v_c_Parser_faultPlace : List Cond := .code yX5_faultPlace cX5_faultPlace 1 (some .int) :: ([.fieldLink RX5 18 "SlopeRunner$Parser" "placeOfFault" "I"] ++ wsX50)
set_option maxHeartbeats 4000000 in
set_option maxRecDepth 100000 in
theorem c_Parser_faultPlace (l : Launch) (D : va_G) (y : Nat → ClassId) (sz : Nat) (h0 a0 a1 : Nat) (pa pk po pf pb pp : Int32) : Met l yX5_faultPlace v_c_Parser_faultPlace ({ frames := 0, cells := 0, slots := 0, locals := 0 } : Room) (va_Pc [.ref h0] (xPre D (xT y) [(h0, .inr (4, [.ref a0, .ref a1, .int pa, .int pk, .int po, .int pf, .int pb, .int pp]))] sz)) (va_Qi (fun (r : Int32) (_ : Unit) => r = pp) (fun (u : Unit) => xB D (xT y) (va_A [(h0, .inr (4, [.ref a0, .ref a1, .int pa, .int pk, .int po, .int pf, .int pb, .int pp]))] sz) [(h0, .inr (4, [.ref a0, .ref a1, .int pa, .int pk, .int po, .int pf, .int pb, .int pp]))]) (va_A [(h0, .inr (4, [.ref a0, .ref a1, .int pa, .int pk, .int po, .int pf, .int pb, .int pp]))] sz)) 0 0 (va_A [(h0, .inr (4, [.ref a0, .ref a1, .int pa, .int pk, .int po, .int pf, .int pb, .int pp]))] sz) := by
  refine x_meti (cc := cX5_faultPlace) (maxL := 1) (by decide) rfl (Nat.le_of_ble_eq_true rfl) ?_
  intro p e s m below meth c A H locs Q hx hb hml hown hts hr hlocks hmn hA hP hK hD hS ls hl hQ
  have hl : lv_has ls 1 [(0, .ref h0)] := hl
  have fl18 := hts (.fieldLink RX5 18 "SlopeRunner$Parser" "placeOfFault" "I") (by decide +kernel)
  have inX5 : ∀ w ∈ wsX50, w ∈ v_c_Parser_faultPlace := (fun w h => List.mem_cons_of_mem _ (List.mem_append_right _ h))
  refine lv_aload_n hx hb dX5_faultPlace_0 rfl (lv_at hl 0 rfl) ?_
  refine va_get (D := D) (ci := 4) (v := .int pp) (C := RX5) (T := TX5) (N := 8) hx hb hts inX5 hown hK hP 0 rfl rfl 7 (by decide) fl18 (fun _ h9 => h9) rfl dX5_faultPlace_1 ?_
  exact x_iret (v := pp) (u := ()) hx hb hr rfl hP hD hK hS [0] rfl (by decide) dX5_faultPlace_4 hlocks hQ

def v_c_Tokens_kindAt0 : List Cond := .code yX10_kindAt cX10_kindAt 2 (some .int) :: ([.fieldLink RX10 41 "SlopeRunner$Tokens" "count" "I"] ++ wsX100)
set_option maxHeartbeats 4000000 in
set_option maxRecDepth 100000 in
theorem c_Tokens_kindAt0 (l : Launch) (D : va_G) (y : Nat → ClassId) (sz : Nat) (h0 a0 a1 a2 a3 : Nat) (k : Int32) : Met l yX10_kindAt v_c_Tokens_kindAt0 ({ frames := 0, cells := 0, slots := 0, locals := 0 } : Room) (va_Pc [.ref h0, .int k] (xPre D (xT y) [(h0, .inr (9, [.ref a0, .ref a1, .ref a2, .ref a3, .int 0, .int 0]))] sz)) (va_Qi (fun (r : Int32) (_ : Unit) => r = 256) (fun (u : Unit) => xB D (xT y) (va_A [(h0, .inr (9, [.ref a0, .ref a1, .ref a2, .ref a3, .int 0, .int 0]))] sz) [(h0, .inr (9, [.ref a0, .ref a1, .ref a2, .ref a3, .int 0, .int 0]))]) (va_A [(h0, .inr (9, [.ref a0, .ref a1, .ref a2, .ref a3, .int 0, .int 0]))] sz)) 0 0 (va_A [(h0, .inr (9, [.ref a0, .ref a1, .ref a2, .ref a3, .int 0, .int 0]))] sz) := by
  refine x_meti (cc := cX10_kindAt) (maxL := 2) (by decide) rfl (Nat.le_of_ble_eq_true rfl) ?_
  intro p e s m below meth c A H locs Q hx hb hml hown hts hr hlocks hmn hA hP hK hD hS ls hl hQ
  have hl : lv_has ls 2 [(0, .ref h0), (1, .int k)] := hl
  have fl41 := hts (.fieldLink RX10 41 "SlopeRunner$Tokens" "count" "I") (by decide +kernel)
  have inX10 : ∀ w ∈ wsX100, w ∈ v_c_Tokens_kindAt0 := (fun w h => List.mem_cons_of_mem _ (List.mem_append_right _ h))
  refine lv_iload_n hx hb dX10_kindAt_0 rfl (lv_at hl 1 rfl) ?_
  refine lv_if_lt (tgt := 21) hx hb dX10_kindAt_1 (by decide) (fun c_1 => ?_) (fun c_1 => ?_)
  · refine lv_sipush (v := 256) hx hb dX10_kindAt_21 (by decide) ?_
    exact x_iret (v := 256) (u := ()) hx hb hr rfl hP hD hK hS [0] rfl (by decide) dX10_kindAt_24 hlocks hQ
  · refine lv_iload_n hx hb dX10_kindAt_4 rfl (lv_at hl 1 rfl) ?_
    refine lv_aload_n hx hb dX10_kindAt_5 rfl (lv_at hl 0 rfl) ?_
    refine va_get (D := D) (ci := 9) (v := .int 0) (C := RX10) (T := TX10) (N := 6) hx hb hts inX10 hown hK hP 0 rfl rfl 4 (by decide) fl41 (fun _ h9 => h9) rfl dX10_kindAt_6 ?_
    refine lv_icmp_ge (tgt := 21) hx hb dX10_kindAt_9 (by decide) (fun c_2 => ?_) (fun c_2 => ?_)
    · refine lv_sipush (v := 256) hx hb dX10_kindAt_21 (by decide) ?_
      exact x_iret (v := 256) (u := ()) hx hb hr rfl hP hD hK hS [0] rfl (by decide) dX10_kindAt_24 hlocks hQ
    · exact absurd (by simp only [x_lt, x_le, Int32.reduceToInt] at *; omega) c_2

