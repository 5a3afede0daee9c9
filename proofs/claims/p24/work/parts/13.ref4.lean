theorem dX12_isResult_0 : decode cX12_isResult 0 = .ok (.aload_n 0, 1) := by decide +kernel
theorem dX12_isResult_1 : decode cX12_isResult 1 = .ok (.getfield 371, 3) := by decide +kernel
theorem dX12_isResult_4 : decode cX12_isResult 4 = .ok (.ifCond .eq 25, 3) := by decide +kernel
theorem dX12_isResult_7 : decode cX12_isResult 7 = .ok (.iload_n 1, 1) := by decide +kernel
theorem dX12_isResult_8 : decode cX12_isResult 8 = .ok (.i2l, 1) := by decide +kernel
theorem dX12_isResult_9 : decode cX12_isResult 9 = .ok (.lconst 0, 1) := by decide +kernel
theorem dX12_isResult_10 : decode cX12_isResult 10 = .ok (.aload_n 0, 1) := by decide +kernel
theorem dX12_isResult_11 : decode cX12_isResult 11 = .ok (.getfield 145, 3) := by decide +kernel
theorem dX12_isResult_14 : decode cX12_isResult 14 = .ok (.iconst 0, 1) := by decide +kernel
theorem dX12_isResult_15 : decode cX12_isResult 15 = .ok (.iaload, 1) := by decide +kernel
theorem dX12_isResult_16 : decode cX12_isResult 16 = .ok (.iconst 1, 1) := by decide +kernel
theorem dX12_isResult_17 : decode cX12_isResult 17 = .ok (.isub, 1) := by decide +kernel
theorem dX12_isResult_18 : decode cX12_isResult 18 = .ok (.i2l, 1) := by decide +kernel
theorem dX12_isResult_19 : decode cX12_isResult 19 = .ok (.invokestatic 231, 3) := by decide +kernel
theorem dX12_isResult_22 : decode cX12_isResult 22 = .ok (.ifCond .eq 7, 3) := by decide +kernel
theorem dX12_isResult_25 : decode cX12_isResult 25 = .ok (.iconst 1, 1) := by decide +kernel
theorem dX12_isResult_26 : decode cX12_isResult 26 = .ok (.goto 4, 3) := by decide +kernel
theorem dX12_isResult_29 : decode cX12_isResult 29 = .ok (.iconst 0, 1) := by decide +kernel
theorem dX12_isResult_30 : decode cX12_isResult 30 = .ok (.ireturn, 1) := by decide +kernel
theorem dX12_isInput_0 : decode cX12_isInput 0 = .ok (.iload_n 1, 1) := by decide +kernel
theorem dX12_isInput_1 : decode cX12_isInput 1 = .ok (.i2l, 1) := by decide +kernel
theorem dX12_isInput_2 : decode cX12_isInput 2 = .ok (.lconst 0, 1) := by decide +kernel
theorem dX12_isInput_3 : decode cX12_isInput 3 = .ok (.aload_n 0, 1) := by decide +kernel
theorem dX12_isInput_4 : decode cX12_isInput 4 = .ok (.getfield 60, 3) := by decide +kernel
theorem dX12_isInput_7 : decode cX12_isInput 7 = .ok (.iconst 5, 1) := by decide +kernel
theorem dX12_isInput_8 : decode cX12_isInput 8 = .ok (.iaload, 1) := by decide +kernel
theorem dX12_isInput_9 : decode cX12_isInput 9 = .ok (.iconst 1, 1) := by decide +kernel
theorem dX12_isInput_10 : decode cX12_isInput 10 = .ok (.isub, 1) := by decide +kernel
theorem dX12_isInput_11 : decode cX12_isInput 11 = .ok (.i2l, 1) := by decide +kernel
theorem dX12_isInput_12 : decode cX12_isInput 12 = .ok (.invokestatic 231, 3) := by decide +kernel
theorem dX12_isInput_15 : decode cX12_isInput 15 = .ok (.ireturn, 1) := by decide +kernel
theorem dX12_result_0 : decode cX12_result 0 = .ok (.aload_n 0, 1) := by decide +kernel
theorem dX12_result_1 : decode cX12_result 1 = .ok (.iload_n 1, 1) := by decide +kernel
theorem dX12_result_2 : decode cX12_result 2 = .ok (.invokevirtual 454, 3) := by decide +kernel
theorem dX12_result_5 : decode cX12_result 5 = .ok (.ifCond .ne 9, 3) := by decide +kernel
theorem dX12_result_8 : decode cX12_result 8 = .ok (.ldc2_w 406, 3) := by decide +kernel
theorem dX12_result_11 : decode cX12_result 11 = .ok (.goto 32, 3) := by decide +kernel
theorem dX12_result_14 : decode cX12_result 14 = .ok (.iload_n 2, 1) := by decide +kernel
theorem dX12_result_15 : decode cX12_result 15 = .ok (.ifCond .eq 17, 3) := by decide +kernel
theorem dX12_result_18 : decode cX12_result 18 = .ok (.aload_n 0, 1) := by decide +kernel
theorem dX12_result_19 : decode cX12_result 19 = .ok (.getfield 124, 3) := by decide +kernel
theorem dX12_result_22 : decode cX12_result 22 = .ok (.aload_n 0, 1) := by decide +kernel
theorem dX12_result_23 : decode cX12_result 23 = .ok (.getfield 148, 3) := by decide +kernel
theorem dX12_result_26 : decode cX12_result 26 = .ok (.iload_n 1, 1) := by decide +kernel
theorem dX12_result_27 : decode cX12_result 27 = .ok (.iaload, 1) := by decide +kernel
theorem dX12_result_28 : decode cX12_result 28 = .ok (.laload, 1) := by decide +kernel
theorem dX12_result_29 : decode cX12_result 29 = .ok (.goto 14, 3) := by decide +kernel
theorem dX12_result_32 : decode cX12_result 32 = .ok (.aload_n 0, 1) := by decide +kernel
theorem dX12_result_33 : decode cX12_result 33 = .ok (.getfield 127, 3) := by decide +kernel
theorem dX12_result_36 : decode cX12_result 36 = .ok (.aload_n 0, 1) := by decide +kernel
theorem dX12_result_37 : decode cX12_result 37 = .ok (.getfield 148, 3) := by decide +kernel
theorem dX12_result_40 : decode cX12_result 40 = .ok (.iload_n 1, 1) := by decide +kernel
theorem dX12_result_41 : decode cX12_result 41 = .ok (.iaload, 1) := by decide +kernel
theorem dX12_result_42 : decode cX12_result 42 = .ok (.laload, 1) := by decide +kernel
theorem dX12_result_43 : decode cX12_result 43 = .ok (.lreturn, 1) := by decide +kernel
theorem dX12_near_0 : decode cX12_near 0 = .ok (.aload_n 0, 1) := by decide +kernel
theorem dX12_near_1 : decode cX12_near 1 = .ok (.getfield 371, 3) := by decide +kernel
theorem dX12_near_4 : decode cX12_near 4 = .ok (.ifCond .eq 10, 3) := by decide +kernel
theorem dX12_near_7 : decode cX12_near 7 = .ok (.aload_n 0, 1) := by decide +kernel
theorem dX12_near_8 : decode cX12_near 8 = .ok (.getfield 412, 3) := by decide +kernel
theorem dX12_near_11 : decode cX12_near 11 = .ok (.ifCond .ne 9, 3) := by decide +kernel
theorem dX12_near_14 : decode cX12_near 14 = .ok (.ldc2_w 406, 3) := by decide +kernel
theorem dX12_near_17 : decode cX12_near 17 = .ok (.goto 18, 3) := by decide +kernel
theorem dX12_near_20 : decode cX12_near 20 = .ok (.iload_n 1, 1) := by decide +kernel
theorem dX12_near_21 : decode cX12_near 21 = .ok (.ifCond .eq 10, 3) := by decide +kernel
theorem dX12_near_24 : decode cX12_near 24 = .ok (.aload_n 0, 1) := by decide +kernel
theorem dX12_near_25 : decode cX12_near 25 = .ok (.getfield 418, 3) := by decide +kernel
theorem dX12_near_28 : decode cX12_near 28 = .ok (.goto 7, 3) := by decide +kernel
theorem dX12_near_31 : decode cX12_near 31 = .ok (.aload_n 0, 1) := by decide +kernel
theorem dX12_near_32 : decode cX12_near 32 = .ok (.getfield 415, 3) := by decide +kernel
theorem dX12_near_35 : decode cX12_near 35 = .ok (.lreturn, 1) := by decide +kernel
theorem dX12_ran_0 : decode cX12_ran 0 = .ok (.aload_n 0, 1) := by decide +kernel
theorem dX12_ran_1 : decode cX12_ran 1 = .ok (.getfield 371, 3) := by decide +kernel
theorem dX12_ran_4 : decode cX12_ran 4 = .ok (.ifCond .ne 5, 3) := by decide +kernel
theorem dX12_ran_7 : decode cX12_ran 7 = .ok (.iconst (-1), 1) := by decide +kernel
theorem dX12_ran_8 : decode cX12_ran 8 = .ok (.ireturn, 1) := by decide +kernel
theorem dX12_ran_9 : decode cX12_ran 9 = .ok (.iload_n 1, 1) := by decide +kernel
theorem dX12_ran_10 : decode cX12_ran 10 = .ok (.ifCond .ne 12, 3) := by decide +kernel
theorem dX12_ran_13 : decode cX12_ran 13 = .ok (.aload_n 0, 1) := by decide +kernel
theorem dX12_ran_14 : decode cX12_ran 14 = .ok (.getfield 142, 3) := by decide +kernel
theorem dX12_ran_17 : decode cX12_ran 17 = .ok (.iconst 0, 1) := by decide +kernel
theorem dX12_ran_18 : decode cX12_ran 18 = .ok (.iaload, 1) := by decide +kernel
theorem dX12_ran_19 : decode cX12_ran 19 = .ok (.goto 46, 3) := by decide +kernel
theorem dX12_ran_22 : decode cX12_ran 22 = .ok (.iload_n 1, 1) := by decide +kernel
theorem dX12_ran_23 : decode cX12_ran 23 = .ok (.iconst 1, 1) := by decide +kernel
theorem dX12_ran_24 : decode cX12_ran 24 = .ok (.if_icmp .ne 12, 3) := by decide +kernel
theorem dX12_ran_27 : decode cX12_ran 27 = .ok (.aload_n 0, 1) := by decide +kernel
theorem dX12_ran_28 : decode cX12_ran 28 = .ok (.getfield 139, 3) := by decide +kernel
theorem dX12_ran_31 : decode cX12_ran 31 = .ok (.iconst 0, 1) := by decide +kernel
theorem dX12_ran_32 : decode cX12_ran 32 = .ok (.iaload, 1) := by decide +kernel
theorem dX12_ran_33 : decode cX12_ran 33 = .ok (.goto 32, 3) := by decide +kernel
theorem dX12_ran_36 : decode cX12_ran 36 = .ok (.iload_n 1, 1) := by decide +kernel
theorem dX12_ran_37 : decode cX12_ran 37 = .ok (.iconst 2, 1) := by decide +kernel
theorem dX12_ran_38 : decode cX12_ran 38 = .ok (.if_icmp .ne 12, 3) := by decide +kernel
theorem dX12_ran_41 : decode cX12_ran 41 = .ok (.aload_n 0, 1) := by decide +kernel
theorem dX12_ran_42 : decode cX12_ran 42 = .ok (.getfield 145, 3) := by decide +kernel
theorem dX12_ran_45 : decode cX12_ran 45 = .ok (.iconst 0, 1) := by decide +kernel
theorem dX12_ran_46 : decode cX12_ran 46 = .ok (.iaload, 1) := by decide +kernel
theorem dX12_ran_47 : decode cX12_ran 47 = .ok (.goto 18, 3) := by decide +kernel
theorem dX12_ran_50 : decode cX12_ran 50 = .ok (.iload_n 1, 1) := by decide +kernel
theorem dX12_ran_51 : decode cX12_ran 51 = .ok (.iconst 3, 1) := by decide +kernel
theorem dX12_ran_52 : decode cX12_ran 52 = .ok (.if_icmp .ne 12, 3) := by decide +kernel
theorem dX12_ran_55 : decode cX12_ran 55 = .ok (.aload_n 0, 1) := by decide +kernel
theorem dX12_ran_56 : decode cX12_ran 56 = .ok (.getfield 151, 3) := by decide +kernel
theorem dX12_ran_59 : decode cX12_ran 59 = .ok (.iconst 0, 1) := by decide +kernel
theorem dX12_ran_60 : decode cX12_ran 60 = .ok (.iaload, 1) := by decide +kernel
theorem dX12_ran_61 : decode cX12_ran 61 = .ok (.goto 4, 3) := by decide +kernel
theorem dX12_ran_64 : decode cX12_ran 64 = .ok (.iconst (-1), 1) := by decide +kernel
theorem dX12_ran_65 : decode cX12_ran 65 = .ok (.ireturn, 1) := by decide +kernel
theorem dX12_fault_0 : decode cX12_fault 0 = .ok (.iload_n 1, 1) := by decide +kernel
theorem dX12_fault_1 : decode cX12_fault 1 = .ok (.ifCond .ne 10, 3) := by decide +kernel
theorem dX12_fault_4 : decode cX12_fault 4 = .ok (.aload_n 0, 1) := by decide +kernel
theorem dX12_fault_5 : decode cX12_fault 5 = .ok (.getfield 362, 3) := by decide +kernel
theorem dX12_fault_8 : decode cX12_fault 8 = .ok (.goto 16, 3) := by decide +kernel
theorem dX12_fault_11 : decode cX12_fault 11 = .ok (.iload_n 1, 1) := by decide +kernel
theorem dX12_fault_12 : decode cX12_fault 12 = .ok (.iconst 1, 1) := by decide +kernel
theorem dX12_fault_13 : decode cX12_fault 13 = .ok (.if_icmp .ne 10, 3) := by decide +kernel
theorem dX12_fault_16 : decode cX12_fault 16 = .ok (.aload_n 0, 1) := by decide +kernel
theorem dX12_fault_17 : decode cX12_fault 17 = .ok (.getfield 13, 3) := by decide +kernel
theorem dX12_fault_20 : decode cX12_fault 20 = .ok (.goto 4, 3) := by decide +kernel
theorem dX12_fault_23 : decode cX12_fault 23 = .ok (.iconst (-1), 1) := by decide +kernel
theorem dX12_fault_24 : decode cX12_fault 24 = .ok (.ireturn, 1) := by decide +kernel
theorem dX12_has_0 : decode cX12_has 0 = .ok (.iload_n 1, 1) := by decide +kernel
theorem dX12_has_1 : decode cX12_has 1 = .ok (.i2l, 1) := by decide +kernel
theorem dX12_has_2 : decode cX12_has 2 = .ok (.lconst 0, 1) := by decide +kernel
theorem dX12_has_3 : decode cX12_has 3 = .ok (.ldc2_w 378, 3) := by decide +kernel
theorem dX12_has_6 : decode cX12_has 6 = .ok (.invokestatic 231, 3) := by decide +kernel
theorem dX12_has_9 : decode cX12_has 9 = .ok (.ifCond .eq 14, 3) := by decide +kernel
theorem dX12_has_12 : decode cX12_has 12 = .ok (.aload_n 0, 1) := by decide +kernel
theorem dX12_has_13 : decode cX12_has 13 = .ok (.getfield 60, 3) := by decide +kernel
theorem dX12_has_16 : decode cX12_has 16 = .ok (.iconst 5, 1) := by decide +kernel
theorem dX12_has_17 : decode cX12_has 17 = .ok (.iload_n 1, 1) := by decide +kernel
theorem dX12_has_18 : decode cX12_has 18 = .ok (.iadd, 1) := by decide +kernel
theorem dX12_has_19 : decode cX12_has 19 = .ok (.iaload, 1) := by decide +kernel
theorem dX12_has_20 : decode cX12_has 20 = .ok (.goto 4, 3) := by decide +kernel
theorem dX12_has_23 : decode cX12_has 23 = .ok (.iconst (-1), 1) := by decide +kernel
theorem dX12_has_24 : decode cX12_has 24 = .ok (.ireturn, 1) := by decide +kernel
theorem dX12_input_0 : decode cX12_input 0 = .ok (.iload_n 1, 1) := by decide +kernel
theorem dX12_input_1 : decode cX12_input 1 = .ok (.i2l, 1) := by decide +kernel
theorem dX12_input_2 : decode cX12_input 2 = .ok (.lconst 0, 1) := by decide +kernel
theorem dX12_input_3 : decode cX12_input 3 = .ok (.aload_n 0, 1) := by decide +kernel
theorem dX12_input_4 : decode cX12_input 4 = .ok (.getfield 60, 3) := by decide +kernel
theorem dX12_input_7 : decode cX12_input 7 = .ok (.iconst 5, 1) := by decide +kernel
theorem dX12_input_8 : decode cX12_input 8 = .ok (.iaload, 1) := by decide +kernel
theorem dX12_input_9 : decode cX12_input 9 = .ok (.iconst 1, 1) := by decide +kernel
theorem dX12_input_10 : decode cX12_input 10 = .ok (.isub, 1) := by decide +kernel
theorem dX12_input_11 : decode cX12_input 11 = .ok (.i2l, 1) := by decide +kernel
theorem dX12_input_12 : decode cX12_input 12 = .ok (.invokestatic 231, 3) := by decide +kernel
theorem dX12_input_15 : decode cX12_input 15 = .ok (.ifCond .ne 9, 3) := by decide +kernel
theorem dX12_input_18 : decode cX12_input 18 = .ok (.ldc2_w 406, 3) := by decide +kernel
theorem dX12_input_21 : decode cX12_input 21 = .ok (.goto 22, 3) := by decide +kernel
theorem dX12_input_24 : decode cX12_input 24 = .ok (.iload_n 2, 1) := by decide +kernel
theorem dX12_input_25 : decode cX12_input 25 = .ok (.ifCond .eq 12, 3) := by decide +kernel
theorem dX12_input_28 : decode cX12_input 28 = .ok (.aload_n 0, 1) := by decide +kernel
theorem dX12_input_29 : decode cX12_input 29 = .ok (.getfield 97, 3) := by decide +kernel
theorem dX12_input_32 : decode cX12_input 32 = .ok (.iload_n 1, 1) := by decide +kernel
theorem dX12_input_33 : decode cX12_input 33 = .ok (.laload, 1) := by decide +kernel
theorem dX12_input_34 : decode cX12_input 34 = .ok (.goto 9, 3) := by decide +kernel
theorem dX12_input_37 : decode cX12_input 37 = .ok (.aload_n 0, 1) := by decide +kernel
theorem dX12_input_38 : decode cX12_input 38 = .ok (.getfield 100, 3) := by decide +kernel
theorem dX12_input_41 : decode cX12_input 41 = .ok (.iload_n 1, 1) := by decide +kernel
theorem dX12_input_42 : decode cX12_input 42 = .ok (.laload, 1) := by decide +kernel
theorem dX12_input_43 : decode cX12_input 43 = .ok (.lreturn, 1) := by decide +kernel
theorem dX12_put_0 : decode cX12_put 0 = .ok (.iload_n 1, 1) := by decide +kernel
theorem dX12_put_1 : decode cX12_put 1 = .ok (.i2l, 1) := by decide +kernel
theorem dX12_put_2 : decode cX12_put 2 = .ok (.lconst 0, 1) := by decide +kernel
theorem dX12_put_3 : decode cX12_put 3 = .ok (.aload_n 0, 1) := by decide +kernel
theorem dX12_put_4 : decode cX12_put 4 = .ok (.getfield 60, 3) := by decide +kernel
theorem dX12_put_7 : decode cX12_put 7 = .ok (.iconst 5, 1) := by decide +kernel
theorem dX12_put_8 : decode cX12_put 8 = .ok (.iaload, 1) := by decide +kernel
theorem dX12_put_9 : decode cX12_put 9 = .ok (.iconst 1, 1) := by decide +kernel
theorem dX12_put_10 : decode cX12_put 10 = .ok (.isub, 1) := by decide +kernel
theorem dX12_put_11 : decode cX12_put 11 = .ok (.i2l, 1) := by decide +kernel
theorem dX12_put_12 : decode cX12_put 12 = .ok (.invokestatic 231, 3) := by decide +kernel
theorem dX12_put_15 : decode cX12_put 15 = .ok (.ifCond .eq 29, 3) := by decide +kernel
theorem dX12_put_18 : decode cX12_put 18 = .ok (.iload_n 2, 1) := by decide +kernel
theorem dX12_put_19 : decode cX12_put 19 = .ok (.i2l, 1) := by decide +kernel
theorem dX12_put_20 : decode cX12_put 20 = .ok (.ldc2_w 404, 3) := by decide +kernel
theorem dX12_put_23 : decode cX12_put 23 = .ok (.ldc2_w 398, 3) := by decide +kernel
theorem dX12_put_26 : decode cX12_put 26 = .ok (.invokestatic 231, 3) := by decide +kernel
theorem dX12_put_29 : decode cX12_put 29 = .ok (.ifCond .eq 15, 3) := by decide +kernel
theorem dX12_put_32 : decode cX12_put 32 = .ok (.iload_n 3, 1) := by decide +kernel
theorem dX12_put_33 : decode cX12_put 33 = .ok (.i2l, 1) := by decide +kernel
theorem dX12_put_34 : decode cX12_put 34 = .ok (.lconst 1, 1) := by decide +kernel
theorem dX12_put_35 : decode cX12_put 35 = .ok (.ldc2_w 398, 3) := by decide +kernel
theorem dX12_put_38 : decode cX12_put 38 = .ok (.invokestatic 231, 3) := by decide +kernel
theorem dX12_put_41 : decode cX12_put 41 = .ok (.ifCond .ne 5, 3) := by decide +kernel
theorem dX12_put_44 : decode cX12_put 44 = .ok (.iconst 0, 1) := by decide +kernel
theorem dX12_put_45 : decode cX12_put 45 = .ok (.ireturn, 1) := by decide +kernel
theorem dX12_put_46 : decode cX12_put 46 = .ok (.aload_n 0, 1) := by decide +kernel
theorem dX12_put_47 : decode cX12_put 47 = .ok (.getfield 365, 3) := by decide +kernel
theorem dX12_put_50 : decode cX12_put 50 = .ok (.bipush 40, 2) := by decide +kernel
theorem dX12_put_52 : decode cX12_put 52 = .ok (.if_icmp .ne 109, 3) := by decide +kernel
theorem dX12_put_55 : decode cX12_put 55 = .ok (.iconst 1, 1) := by decide +kernel
theorem dX12_put_56 : decode cX12_put 56 = .ok (.istore 4, 2) := by decide +kernel
theorem dX12_put_58 : decode cX12_put 58 = .ok (.iload 4, 2) := by decide +kernel
theorem dX12_put_60 : decode cX12_put 60 = .ok (.bipush 40, 2) := by decide +kernel
theorem dX12_put_62 : decode cX12_put 62 = .ok (.if_icmp .ge 89, 3) := by decide +kernel
theorem dX12_put_65 : decode cX12_put 65 = .ok (.aload_n 0, 1) := by decide +kernel
theorem dX12_put_66 : decode cX12_put 66 = .ok (.getfield 103, 3) := by decide +kernel
theorem dX12_put_69 : decode cX12_put 69 = .ok (.iload 4, 2) := by decide +kernel
theorem dX12_put_71 : decode cX12_put 71 = .ok (.iconst 1, 1) := by decide +kernel
theorem dX12_put_72 : decode cX12_put 72 = .ok (.isub, 1) := by decide +kernel
theorem dX12_put_73 : decode cX12_put 73 = .ok (.aload_n 0, 1) := by decide +kernel
theorem dX12_put_74 : decode cX12_put 74 = .ok (.getfield 103, 3) := by decide +kernel
theorem dX12_put_77 : decode cX12_put 77 = .ok (.iload 4, 2) := by decide +kernel
theorem dX12_put_79 : decode cX12_put 79 = .ok (.iaload, 1) := by decide +kernel
theorem dX12_put_80 : decode cX12_put 80 = .ok (.iastore, 1) := by decide +kernel
theorem dX12_put_81 : decode cX12_put 81 = .ok (.aload_n 0, 1) := by decide +kernel
theorem dX12_put_82 : decode cX12_put 82 = .ok (.getfield 106, 3) := by decide +kernel
theorem dX12_put_85 : decode cX12_put 85 = .ok (.iload 4, 2) := by decide +kernel
theorem dX12_put_87 : decode cX12_put 87 = .ok (.iconst 1, 1) := by decide +kernel
theorem dX12_put_88 : decode cX12_put 88 = .ok (.isub, 1) := by decide +kernel
theorem dX12_put_89 : decode cX12_put 89 = .ok (.aload_n 0, 1) := by decide +kernel
theorem dX12_put_90 : decode cX12_put 90 = .ok (.getfield 106, 3) := by decide +kernel
theorem dX12_put_93 : decode cX12_put 93 = .ok (.iload 4, 2) := by decide +kernel
theorem dX12_put_95 : decode cX12_put 95 = .ok (.laload, 1) := by decide +kernel
theorem dX12_put_96 : decode cX12_put 96 = .ok (.lastore, 1) := by decide +kernel
theorem dX12_put_97 : decode cX12_put 97 = .ok (.aload_n 0, 1) := by decide +kernel
theorem dX12_put_98 : decode cX12_put 98 = .ok (.getfield 109, 3) := by decide +kernel
theorem dX12_put_101 : decode cX12_put 101 = .ok (.iload 4, 2) := by decide +kernel
theorem dX12_put_103 : decode cX12_put 103 = .ok (.iconst 1, 1) := by decide +kernel
theorem dX12_put_104 : decode cX12_put 104 = .ok (.isub, 1) := by decide +kernel
theorem dX12_put_105 : decode cX12_put 105 = .ok (.aload_n 0, 1) := by decide +kernel
theorem dX12_put_106 : decode cX12_put 106 = .ok (.getfield 109, 3) := by decide +kernel
theorem dX12_put_109 : decode cX12_put 109 = .ok (.iload 4, 2) := by decide +kernel
theorem dX12_put_111 : decode cX12_put 111 = .ok (.laload, 1) := by decide +kernel
theorem dX12_put_112 : decode cX12_put 112 = .ok (.lastore, 1) := by decide +kernel
theorem dX12_put_113 : decode cX12_put 113 = .ok (.aload_n 0, 1) := by decide +kernel
theorem dX12_put_114 : decode cX12_put 114 = .ok (.getfield 112, 3) := by decide +kernel
theorem dX12_put_117 : decode cX12_put 117 = .ok (.iload 4, 2) := by decide +kernel
theorem dX12_put_119 : decode cX12_put 119 = .ok (.iconst 1, 1) := by decide +kernel
theorem dX12_put_120 : decode cX12_put 120 = .ok (.isub, 1) := by decide +kernel
theorem dX12_put_121 : decode cX12_put 121 = .ok (.aload_n 0, 1) := by decide +kernel
theorem dX12_put_122 : decode cX12_put 122 = .ok (.getfield 112, 3) := by decide +kernel
theorem dX12_put_125 : decode cX12_put 125 = .ok (.iload 4, 2) := by decide +kernel
theorem dX12_put_127 : decode cX12_put 127 = .ok (.laload, 1) := by decide +kernel
theorem dX12_put_128 : decode cX12_put 128 = .ok (.lastore, 1) := by decide +kernel
theorem dX12_put_129 : decode cX12_put 129 = .ok (.aload_n 0, 1) := by decide +kernel
theorem dX12_put_130 : decode cX12_put 130 = .ok (.getfield 115, 3) := by decide +kernel
theorem dX12_put_133 : decode cX12_put 133 = .ok (.iload 4, 2) := by decide +kernel
theorem dX12_put_135 : decode cX12_put 135 = .ok (.iconst 1, 1) := by decide +kernel
theorem dX12_put_136 : decode cX12_put 136 = .ok (.isub, 1) := by decide +kernel
theorem dX12_put_137 : decode cX12_put 137 = .ok (.aload_n 0, 1) := by decide +kernel
theorem dX12_put_138 : decode cX12_put 138 = .ok (.getfield 115, 3) := by decide +kernel
theorem dX12_put_141 : decode cX12_put 141 = .ok (.iload 4, 2) := by decide +kernel
theorem dX12_put_143 : decode cX12_put 143 = .ok (.laload, 1) := by decide +kernel
theorem dX12_put_144 : decode cX12_put 144 = .ok (.lastore, 1) := by decide +kernel
theorem dX12_put_145 : decode cX12_put 145 = .ok (.iinc 4 1, 3) := by decide +kernel
theorem dX12_put_148 : decode cX12_put 148 = .ok (.goto (-90), 3) := by decide +kernel
theorem dX12_put_151 : decode cX12_put 151 = .ok (.aload_n 0, 1) := by decide +kernel
theorem dX12_put_152 : decode cX12_put 152 = .ok (.dup, 1) := by decide +kernel
theorem dX12_put_153 : decode cX12_put 153 = .ok (.getfield 365, 3) := by decide +kernel
theorem dX12_put_156 : decode cX12_put 156 = .ok (.iconst 1, 1) := by decide +kernel
theorem dX12_put_157 : decode cX12_put 157 = .ok (.isub, 1) := by decide +kernel
theorem dX12_put_158 : decode cX12_put 158 = .ok (.putfield 365, 3) := by decide +kernel
theorem dX12_put_161 : decode cX12_put 161 = .ok (.iload_n 2, 1) := by decide +kernel
theorem dX12_put_162 : decode cX12_put 162 = .ok (.i2l, 1) := by decide +kernel
theorem dX12_put_163 : decode cX12_put 163 = .ok (.iload_n 3, 1) := by decide +kernel
theorem dX12_put_164 : decode cX12_put 164 = .ok (.i2l, 1) := by decide +kernel
theorem dX12_put_165 : decode cX12_put 165 = .ok (.invokestatic 394, 3) := by decide +kernel
theorem dX12_put_168 : decode cX12_put 168 = .ok (.lstore 4, 2) := by decide +kernel
theorem dX12_put_170 : decode cX12_put 170 = .ok (.aload_n 0, 1) := by decide +kernel
theorem dX12_put_171 : decode cX12_put 171 = .ok (.getfield 103, 3) := by decide +kernel
theorem dX12_put_174 : decode cX12_put 174 = .ok (.aload_n 0, 1) := by decide +kernel
theorem dX12_put_175 : decode cX12_put 175 = .ok (.getfield 365, 3) := by decide +kernel
theorem dX12_put_178 : decode cX12_put 178 = .ok (.iload_n 1, 1) := by decide +kernel
theorem dX12_put_179 : decode cX12_put 179 = .ok (.iastore, 1) := by decide +kernel
theorem dX12_put_180 : decode cX12_put 180 = .ok (.aload_n 0, 1) := by decide +kernel
theorem dX12_put_181 : decode cX12_put 181 = .ok (.getfield 106, 3) := by decide +kernel
theorem dX12_put_184 : decode cX12_put 184 = .ok (.aload_n 0, 1) := by decide +kernel
theorem dX12_put_185 : decode cX12_put 185 = .ok (.getfield 365, 3) := by decide +kernel
theorem dX12_put_188 : decode cX12_put 188 = .ok (.aload_n 0, 1) := by decide +kernel
theorem dX12_put_189 : decode cX12_put 189 = .ok (.getfield 97, 3) := by decide +kernel
theorem dX12_put_192 : decode cX12_put 192 = .ok (.iload_n 1, 1) := by decide +kernel
theorem dX12_put_193 : decode cX12_put 193 = .ok (.laload, 1) := by decide +kernel
theorem dX12_put_194 : decode cX12_put 194 = .ok (.lastore, 1) := by decide +kernel
theorem dX12_put_195 : decode cX12_put 195 = .ok (.aload_n 0, 1) := by decide +kernel
theorem dX12_put_196 : decode cX12_put 196 = .ok (.getfield 109, 3) := by decide +kernel
theorem dX12_put_199 : decode cX12_put 199 = .ok (.aload_n 0, 1) := by decide +kernel
theorem dX12_put_200 : decode cX12_put 200 = .ok (.getfield 365, 3) := by decide +kernel
theorem dX12_put_203 : decode cX12_put 203 = .ok (.aload_n 0, 1) := by decide +kernel
theorem dX12_put_204 : decode cX12_put 204 = .ok (.getfield 100, 3) := by decide +kernel
theorem dX12_put_207 : decode cX12_put 207 = .ok (.iload_n 1, 1) := by decide +kernel
theorem dX12_put_208 : decode cX12_put 208 = .ok (.laload, 1) := by decide +kernel
theorem dX12_put_209 : decode cX12_put 209 = .ok (.lastore, 1) := by decide +kernel
theorem dX12_put_210 : decode cX12_put 210 = .ok (.aload_n 0, 1) := by decide +kernel
theorem dX12_put_211 : decode cX12_put 211 = .ok (.getfield 112, 3) := by decide +kernel
theorem dX12_put_214 : decode cX12_put 214 = .ok (.aload_n 0, 1) := by decide +kernel
theorem dX12_put_215 : decode cX12_put 215 = .ok (.getfield 365, 3) := by decide +kernel
theorem dX12_put_218 : decode cX12_put 218 = .ok (.iload_n 2, 1) := by decide +kernel
theorem dX12_put_219 : decode cX12_put 219 = .ok (.i2l, 1) := by decide +kernel
theorem dX12_put_220 : decode cX12_put 220 = .ok (.lload 4, 2) := by decide +kernel
theorem dX12_put_222 : decode cX12_put 222 = .ok (.ldiv, 1) := by decide +kernel
theorem dX12_put_223 : decode cX12_put 223 = .ok (.lastore, 1) := by decide +kernel
theorem dX12_put_224 : decode cX12_put 224 = .ok (.aload_n 0, 1) := by decide +kernel
theorem dX12_put_225 : decode cX12_put 225 = .ok (.getfield 115, 3) := by decide +kernel
theorem dX12_put_228 : decode cX12_put 228 = .ok (.aload_n 0, 1) := by decide +kernel
theorem dX12_put_229 : decode cX12_put 229 = .ok (.getfield 365, 3) := by decide +kernel
theorem dX12_put_232 : decode cX12_put 232 = .ok (.iload_n 3, 1) := by decide +kernel
theorem dX12_put_233 : decode cX12_put 233 = .ok (.i2l, 1) := by decide +kernel
theorem dX12_put_234 : decode cX12_put 234 = .ok (.lload 4, 2) := by decide +kernel
theorem dX12_put_236 : decode cX12_put 236 = .ok (.ldiv, 1) := by decide +kernel
theorem dX12_put_237 : decode cX12_put 237 = .ok (.lastore, 1) := by decide +kernel
theorem dX12_put_238 : decode cX12_put 238 = .ok (.aload_n 0, 1) := by decide +kernel
theorem dX12_put_239 : decode cX12_put 239 = .ok (.getfield 97, 3) := by decide +kernel
theorem dX12_put_242 : decode cX12_put 242 = .ok (.iload_n 1, 1) := by decide +kernel
theorem dX12_put_243 : decode cX12_put 243 = .ok (.iload_n 2, 1) := by decide +kernel
theorem dX12_put_244 : decode cX12_put 244 = .ok (.i2l, 1) := by decide +kernel
theorem dX12_put_245 : decode cX12_put 245 = .ok (.lload 4, 2) := by decide +kernel
theorem dX12_put_247 : decode cX12_put 247 = .ok (.ldiv, 1) := by decide +kernel
theorem dX12_put_248 : decode cX12_put 248 = .ok (.lastore, 1) := by decide +kernel
theorem dX12_put_249 : decode cX12_put 249 = .ok (.aload_n 0, 1) := by decide +kernel
theorem dX12_put_250 : decode cX12_put 250 = .ok (.getfield 100, 3) := by decide +kernel
theorem dX12_put_253 : decode cX12_put 253 = .ok (.iload_n 1, 1) := by decide +kernel
theorem dX12_put_254 : decode cX12_put 254 = .ok (.iload_n 3, 1) := by decide +kernel
theorem dX12_put_255 : decode cX12_put 255 = .ok (.i2l, 1) := by decide +kernel
theorem dX12_put_256 : decode cX12_put 256 = .ok (.lload 4, 2) := by decide +kernel
theorem dX12_put_258 : decode cX12_put 258 = .ok (.ldiv, 1) := by decide +kernel
theorem dX12_put_259 : decode cX12_put 259 = .ok (.lastore, 1) := by decide +kernel
theorem dX12_put_260 : decode cX12_put 260 = .ok (.aload_n 0, 1) := by decide +kernel
theorem dX12_put_261 : decode cX12_put 261 = .ok (.dup, 1) := by decide +kernel
theorem dX12_put_262 : decode cX12_put 262 = .ok (.getfield 365, 3) := by decide +kernel
theorem dX12_put_265 : decode cX12_put 265 = .ok (.iconst 1, 1) := by decide +kernel
theorem dX12_put_266 : decode cX12_put 266 = .ok (.iadd, 1) := by decide +kernel
theorem dX12_put_267 : decode cX12_put 267 = .ok (.putfield 365, 3) := by decide +kernel
theorem dX12_put_270 : decode cX12_put 270 = .ok (.aload_n 0, 1) := by decide +kernel
theorem dX12_put_271 : decode cX12_put 271 = .ok (.aload_n 0, 1) := by decide +kernel
theorem dX12_put_272 : decode cX12_put 272 = .ok (.getfield 365, 3) := by decide +kernel
theorem dX12_put_275 : decode cX12_put 275 = .ok (.putfield 368, 3) := by decide +kernel
theorem dX12_put_278 : decode cX12_put 278 = .ok (.iconst 1, 1) := by decide +kernel
theorem dX12_put_279 : decode cX12_put 279 = .ok (.ireturn, 1) := by decide +kernel
theorem dX12_undo_0 : decode cX12_undo 0 = .ok (.aload_n 0, 1) := by decide +kernel
theorem dX12_undo_1 : decode cX12_undo 1 = .ok (.getfield 365, 3) := by decide +kernel
theorem dX12_undo_4 : decode cX12_undo 4 = .ok (.ifCond .ne 5, 3) := by decide +kernel
theorem dX12_undo_7 : decode cX12_undo 7 = .ok (.iconst 0, 1) := by decide +kernel
theorem dX12_undo_8 : decode cX12_undo 8 = .ok (.ireturn, 1) := by decide +kernel
theorem dX12_undo_9 : decode cX12_undo 9 = .ok (.aload_n 0, 1) := by decide +kernel
theorem dX12_undo_10 : decode cX12_undo 10 = .ok (.dup, 1) := by decide +kernel
theorem dX12_undo_11 : decode cX12_undo 11 = .ok (.getfield 365, 3) := by decide +kernel
theorem dX12_undo_14 : decode cX12_undo 14 = .ok (.iconst 1, 1) := by decide +kernel
theorem dX12_undo_15 : decode cX12_undo 15 = .ok (.isub, 1) := by decide +kernel
theorem dX12_undo_16 : decode cX12_undo 16 = .ok (.putfield 365, 3) := by decide +kernel
theorem dX12_undo_19 : decode cX12_undo 19 = .ok (.aload_n 0, 1) := by decide +kernel
theorem dX12_undo_20 : decode cX12_undo 20 = .ok (.getfield 97, 3) := by decide +kernel
theorem dX12_undo_23 : decode cX12_undo 23 = .ok (.aload_n 0, 1) := by decide +kernel
theorem dX12_undo_24 : decode cX12_undo 24 = .ok (.getfield 103, 3) := by decide +kernel
theorem dX12_undo_27 : decode cX12_undo 27 = .ok (.aload_n 0, 1) := by decide +kernel
theorem dX12_undo_28 : decode cX12_undo 28 = .ok (.getfield 365, 3) := by decide +kernel
theorem dX12_undo_31 : decode cX12_undo 31 = .ok (.iaload, 1) := by decide +kernel
theorem dX12_undo_32 : decode cX12_undo 32 = .ok (.aload_n 0, 1) := by decide +kernel
theorem dX12_undo_33 : decode cX12_undo 33 = .ok (.getfield 106, 3) := by decide +kernel
theorem dX12_undo_36 : decode cX12_undo 36 = .ok (.aload_n 0, 1) := by decide +kernel
theorem dX12_undo_37 : decode cX12_undo 37 = .ok (.getfield 365, 3) := by decide +kernel
theorem dX12_undo_40 : decode cX12_undo 40 = .ok (.laload, 1) := by decide +kernel
theorem dX12_undo_41 : decode cX12_undo 41 = .ok (.lastore, 1) := by decide +kernel
theorem dX12_undo_42 : decode cX12_undo 42 = .ok (.aload_n 0, 1) := by decide +kernel
theorem dX12_undo_43 : decode cX12_undo 43 = .ok (.getfield 100, 3) := by decide +kernel
theorem dX12_undo_46 : decode cX12_undo 46 = .ok (.aload_n 0, 1) := by decide +kernel
theorem dX12_undo_47 : decode cX12_undo 47 = .ok (.getfield 103, 3) := by decide +kernel
theorem dX12_undo_50 : decode cX12_undo 50 = .ok (.aload_n 0, 1) := by decide +kernel
theorem dX12_undo_51 : decode cX12_undo 51 = .ok (.getfield 365, 3) := by decide +kernel
theorem dX12_undo_54 : decode cX12_undo 54 = .ok (.iaload, 1) := by decide +kernel
theorem dX12_undo_55 : decode cX12_undo 55 = .ok (.aload_n 0, 1) := by decide +kernel
theorem dX12_undo_56 : decode cX12_undo 56 = .ok (.getfield 109, 3) := by decide +kernel
theorem dX12_undo_59 : decode cX12_undo 59 = .ok (.aload_n 0, 1) := by decide +kernel
theorem dX12_undo_60 : decode cX12_undo 60 = .ok (.getfield 365, 3) := by decide +kernel
theorem dX12_undo_63 : decode cX12_undo 63 = .ok (.laload, 1) := by decide +kernel
theorem dX12_undo_64 : decode cX12_undo 64 = .ok (.lastore, 1) := by decide +kernel
theorem dX12_undo_65 : decode cX12_undo 65 = .ok (.iconst 1, 1) := by decide +kernel
theorem dX12_undo_66 : decode cX12_undo 66 = .ok (.ireturn, 1) := by decide +kernel
theorem dX12_redo_0 : decode cX12_redo 0 = .ok (.aload_n 0, 1) := by decide +kernel
theorem dX12_redo_1 : decode cX12_redo 1 = .ok (.getfield 365, 3) := by decide +kernel
theorem dX12_redo_4 : decode cX12_redo 4 = .ok (.aload_n 0, 1) := by decide +kernel
theorem dX12_redo_5 : decode cX12_redo 5 = .ok (.getfield 368, 3) := by decide +kernel
theorem dX12_redo_8 : decode cX12_redo 8 = .ok (.if_icmp .ne 5, 3) := by decide +kernel
theorem dX12_redo_11 : decode cX12_redo 11 = .ok (.iconst 0, 1) := by decide +kernel
theorem dX12_redo_12 : decode cX12_redo 12 = .ok (.ireturn, 1) := by decide +kernel
theorem dX12_redo_13 : decode cX12_redo 13 = .ok (.aload_n 0, 1) := by decide +kernel
theorem dX12_redo_14 : decode cX12_redo 14 = .ok (.getfield 97, 3) := by decide +kernel
theorem dX12_redo_17 : decode cX12_redo 17 = .ok (.aload_n 0, 1) := by decide +kernel
theorem dX12_redo_18 : decode cX12_redo 18 = .ok (.getfield 103, 3) := by decide +kernel
theorem dX12_redo_21 : decode cX12_redo 21 = .ok (.aload_n 0, 1) := by decide +kernel
theorem dX12_redo_22 : decode cX12_redo 22 = .ok (.getfield 365, 3) := by decide +kernel
theorem dX12_redo_25 : decode cX12_redo 25 = .ok (.iaload, 1) := by decide +kernel
theorem dX12_redo_26 : decode cX12_redo 26 = .ok (.aload_n 0, 1) := by decide +kernel
theorem dX12_redo_27 : decode cX12_redo 27 = .ok (.getfield 112, 3) := by decide +kernel
theorem dX12_redo_30 : decode cX12_redo 30 = .ok (.aload_n 0, 1) := by decide +kernel
theorem dX12_redo_31 : decode cX12_redo 31 = .ok (.getfield 365, 3) := by decide +kernel
theorem dX12_redo_34 : decode cX12_redo 34 = .ok (.laload, 1) := by decide +kernel
theorem dX12_redo_35 : decode cX12_redo 35 = .ok (.lastore, 1) := by decide +kernel
theorem dX12_redo_36 : decode cX12_redo 36 = .ok (.aload_n 0, 1) := by decide +kernel
theorem dX12_redo_37 : decode cX12_redo 37 = .ok (.getfield 100, 3) := by decide +kernel
theorem dX12_redo_40 : decode cX12_redo 40 = .ok (.aload_n 0, 1) := by decide +kernel
theorem dX12_redo_41 : decode cX12_redo 41 = .ok (.getfield 103, 3) := by decide +kernel
theorem dX12_redo_44 : decode cX12_redo 44 = .ok (.aload_n 0, 1) := by decide +kernel
theorem dX12_redo_45 : decode cX12_redo 45 = .ok (.getfield 365, 3) := by decide +kernel
theorem dX12_redo_48 : decode cX12_redo 48 = .ok (.iaload, 1) := by decide +kernel
theorem dX12_redo_49 : decode cX12_redo 49 = .ok (.aload_n 0, 1) := by decide +kernel
theorem dX12_redo_50 : decode cX12_redo 50 = .ok (.getfield 115, 3) := by decide +kernel
theorem dX12_redo_53 : decode cX12_redo 53 = .ok (.aload_n 0, 1) := by decide +kernel
theorem dX12_redo_54 : decode cX12_redo 54 = .ok (.getfield 365, 3) := by decide +kernel
theorem dX12_redo_57 : decode cX12_redo 57 = .ok (.laload, 1) := by decide +kernel
theorem dX12_redo_58 : decode cX12_redo 58 = .ok (.lastore, 1) := by decide +kernel
theorem dX12_redo_59 : decode cX12_redo 59 = .ok (.aload_n 0, 1) := by decide +kernel
theorem dX12_redo_60 : decode cX12_redo 60 = .ok (.dup, 1) := by decide +kernel
theorem dX12_redo_61 : decode cX12_redo 61 = .ok (.getfield 365, 3) := by decide +kernel
theorem dX12_redo_64 : decode cX12_redo 64 = .ok (.iconst 1, 1) := by decide +kernel
theorem dX12_redo_65 : decode cX12_redo 65 = .ok (.iadd, 1) := by decide +kernel
theorem dX12_redo_66 : decode cX12_redo 66 = .ok (.putfield 365, 3) := by decide +kernel
theorem dX12_redo_69 : decode cX12_redo 69 = .ok (.iconst 1, 1) := by decide +kernel
theorem dX12_redo_70 : decode cX12_redo 70 = .ok (.ireturn, 1) := by decide +kernel
theorem dX12_forward_0 : decode cX12_forward 0 = .ok (.aload_n 0, 1) := by decide +kernel
theorem dX12_forward_1 : decode cX12_forward 1 = .ok (.iload_n 1, 1) := by decide +kernel
theorem dX12_forward_2 : decode cX12_forward 2 = .ok (.invokevirtual 454, 3) := by decide +kernel
theorem dX12_forward_5 : decode cX12_forward 5 = .ok (.ifCond .eq 11, 3) := by decide +kernel
theorem dX12_forward_8 : decode cX12_forward 8 = .ok (.aload_n 0, 1) := by decide +kernel
theorem dX12_forward_9 : decode cX12_forward 9 = .ok (.iload_n 2, 1) := by decide +kernel
theorem dX12_forward_10 : decode cX12_forward 10 = .ok (.invokevirtual 464, 3) := by decide +kernel
theorem dX12_forward_13 : decode cX12_forward 13 = .ok (.ifCond .ne 7, 3) := by decide +kernel
theorem dX12_forward_16 : decode cX12_forward 16 = .ok (.ldc2_w 406, 3) := by decide +kernel
theorem dX12_forward_19 : decode cX12_forward 19 = .ok (.lreturn, 1) := by decide +kernel
theorem dX12_forward_20 : decode cX12_forward 20 = .ok (.aload_n 0, 1) := by decide +kernel
theorem dX12_forward_21 : decode cX12_forward 21 = .ok (.iload_n 1, 1) := by decide +kernel
theorem dX12_forward_22 : decode cX12_forward 22 = .ok (.invokevirtual 467, 3) := by decide +kernel
theorem dX12_forward_25 : decode cX12_forward 25 = .ok (.aload_n 0, 1) := by decide +kernel
theorem dX12_forward_26 : decode cX12_forward 26 = .ok (.iload_n 1, 1) := by decide +kernel
theorem dX12_forward_27 : decode cX12_forward 27 = .ok (.iload_n 2, 1) := by decide +kernel
theorem dX12_forward_28 : decode cX12_forward 28 = .ok (.iconst 0, 1) := by decide +kernel
theorem dX12_forward_29 : decode cX12_forward 29 = .ok (.invokevirtual 470, 3) := by decide +kernel
theorem dX12_forward_32 : decode cX12_forward 32 = .ok (.ifCond .ne 7, 3) := by decide +kernel
theorem dX12_forward_35 : decode cX12_forward 35 = .ok (.ldc2_w 406, 3) := by decide +kernel
theorem dX12_forward_38 : decode cX12_forward 38 = .ok (.lreturn, 1) := by decide +kernel
theorem dX12_forward_39 : decode cX12_forward 39 = .ok (.iload_n 3, 1) := by decide +kernel
theorem dX12_forward_40 : decode cX12_forward 40 = .ok (.ifCond .eq 17, 3) := by decide +kernel
theorem dX12_forward_43 : decode cX12_forward 43 = .ok (.aload_n 0, 1) := by decide +kernel
theorem dX12_forward_44 : decode cX12_forward 44 = .ok (.getfield 167, 3) := by decide +kernel
theorem dX12_forward_47 : decode cX12_forward 47 = .ok (.aload_n 0, 1) := by decide +kernel
theorem dX12_forward_48 : decode cX12_forward 48 = .ok (.getfield 148, 3) := by decide +kernel
theorem dX12_forward_51 : decode cX12_forward 51 = .ok (.iload_n 1, 1) := by decide +kernel
theorem dX12_forward_52 : decode cX12_forward 52 = .ok (.iaload, 1) := by decide +kernel
theorem dX12_forward_53 : decode cX12_forward 53 = .ok (.laload, 1) := by decide +kernel
theorem dX12_forward_54 : decode cX12_forward 54 = .ok (.goto 14, 3) := by decide +kernel
theorem dX12_forward_57 : decode cX12_forward 57 = .ok (.aload_n 0, 1) := by decide +kernel
theorem dX12_forward_58 : decode cX12_forward 58 = .ok (.getfield 170, 3) := by decide +kernel
theorem dX12_forward_61 : decode cX12_forward 61 = .ok (.aload_n 0, 1) := by decide +kernel
theorem dX12_forward_62 : decode cX12_forward 62 = .ok (.getfield 148, 3) := by decide +kernel
theorem dX12_forward_65 : decode cX12_forward 65 = .ok (.iload_n 1, 1) := by decide +kernel
theorem dX12_forward_66 : decode cX12_forward 66 = .ok (.iaload, 1) := by decide +kernel
theorem dX12_forward_67 : decode cX12_forward 67 = .ok (.laload, 1) := by decide +kernel
theorem dX12_forward_68 : decode cX12_forward 68 = .ok (.lreturn, 1) := by decide +kernel
theorem dX12_backward_0 : decode cX12_backward 0 = .ok (.aload_n 0, 1) := by decide +kernel
theorem dX12_backward_1 : decode cX12_backward 1 = .ok (.iload_n 1, 1) := by decide +kernel
theorem dX12_backward_2 : decode cX12_backward 2 = .ok (.invokevirtual 454, 3) := by decide +kernel
theorem dX12_backward_5 : decode cX12_backward 5 = .ok (.ifCond .eq 11, 3) := by decide +kernel
theorem dX12_backward_8 : decode cX12_backward 8 = .ok (.aload_n 0, 1) := by decide +kernel
theorem dX12_backward_9 : decode cX12_backward 9 = .ok (.iload_n 2, 1) := by decide +kernel
theorem dX12_backward_10 : decode cX12_backward 10 = .ok (.invokevirtual 464, 3) := by decide +kernel
theorem dX12_backward_13 : decode cX12_backward 13 = .ok (.ifCond .ne 7, 3) := by decide +kernel
theorem dX12_backward_16 : decode cX12_backward 16 = .ok (.ldc2_w 406, 3) := by decide +kernel
theorem dX12_backward_19 : decode cX12_backward 19 = .ok (.lreturn, 1) := by decide +kernel
theorem dX12_backward_20 : decode cX12_backward 20 = .ok (.iconst 0, 1) := by decide +kernel
theorem dX12_backward_21 : decode cX12_backward 21 = .ok (.istore 4, 2) := by decide +kernel
theorem dX12_backward_23 : decode cX12_backward 23 = .ok (.iload 4, 2) := by decide +kernel
theorem dX12_backward_25 : decode cX12_backward 25 = .ok (.aload_n 0, 1) := by decide +kernel
theorem dX12_backward_26 : decode cX12_backward 26 = .ok (.getfield 139, 3) := by decide +kernel
theorem dX12_backward_29 : decode cX12_backward 29 = .ok (.iconst 0, 1) := by decide +kernel
theorem dX12_backward_30 : decode cX12_backward 30 = .ok (.iaload, 1) := by decide +kernel
theorem dX12_backward_31 : decode cX12_backward 31 = .ok (.if_icmp .ge 33, 3) := by decide +kernel
theorem dX12_backward_34 : decode cX12_backward 34 = .ok (.aload_n 0, 1) := by decide +kernel
theorem dX12_backward_35 : decode cX12_backward 35 = .ok (.iconst 0, 1) := by decide +kernel
theorem dX12_backward_36 : decode cX12_backward 36 = .ok (.iload 4, 2) := by decide +kernel
theorem dX12_backward_38 : decode cX12_backward 38 = .ok (.iload 4, 2) := by decide +kernel
theorem dX12_backward_40 : decode cX12_backward 40 = .ok (.aload_n 0, 1) := by decide +kernel
theorem dX12_backward_41 : decode cX12_backward 41 = .ok (.getfield 148, 3) := by decide +kernel
theorem dX12_backward_44 : decode cX12_backward 44 = .ok (.iload_n 1, 1) := by decide +kernel
theorem dX12_backward_45 : decode cX12_backward 45 = .ok (.iaload, 1) := by decide +kernel
theorem dX12_backward_46 : decode cX12_backward 46 = .ok (.if_icmp .ne 7, 3) := by decide +kernel
theorem dX12_backward_49 : decode cX12_backward 49 = .ok (.lconst 1, 1) := by decide +kernel
theorem dX12_backward_50 : decode cX12_backward 50 = .ok (.goto 4, 3) := by decide +kernel
theorem dX12_backward_53 : decode cX12_backward 53 = .ok (.lconst 0, 1) := by decide +kernel
theorem dX12_backward_54 : decode cX12_backward 54 = .ok (.lconst 1, 1) := by decide +kernel
theorem dX12_backward_55 : decode cX12_backward 55 = .ok (.invokevirtual 457, 3) := by decide +kernel
theorem dX12_backward_58 : decode cX12_backward 58 = .ok (.iinc 4 1, 3) := by decide +kernel
theorem dX12_backward_61 : decode cX12_backward 61 = .ok (.goto (-38), 3) := by decide +kernel
theorem dX12_backward_64 : decode cX12_backward 64 = .ok (.aload_n 0, 1) := by decide +kernel
theorem dX12_backward_65 : decode cX12_backward 65 = .ok (.iconst 0, 1) := by decide +kernel
theorem dX12_backward_66 : decode cX12_backward 66 = .ok (.putfield 384, 3) := by decide +kernel
theorem dX12_backward_69 : decode cX12_backward 69 = .ok (.aload_n 0, 1) := by decide +kernel
theorem dX12_backward_70 : decode cX12_backward 70 = .ok (.getfield 139, 3) := by decide +kernel
theorem dX12_backward_73 : decode cX12_backward 73 = .ok (.iconst 0, 1) := by decide +kernel
theorem dX12_backward_74 : decode cX12_backward 74 = .ok (.iaload, 1) := by decide +kernel
theorem dX12_backward_75 : decode cX12_backward 75 = .ok (.iconst 1, 1) := by decide +kernel
theorem dX12_backward_76 : decode cX12_backward 76 = .ok (.isub, 1) := by decide +kernel
theorem dX12_backward_77 : decode cX12_backward 77 = .ok (.istore 4, 2) := by decide +kernel
theorem dX12_backward_79 : decode cX12_backward 79 = .ok (.iload 4, 2) := by decide +kernel
theorem dX12_backward_81 : decode cX12_backward 81 = .ok (.ifCond .lt 58, 3) := by decide +kernel
theorem dX12_backward_84 : decode cX12_backward 84 = .ok (.aload_n 0, 1) := by decide +kernel
theorem dX12_backward_85 : decode cX12_backward 85 = .ok (.getfield 384, 3) := by decide +kernel
theorem dX12_backward_88 : decode cX12_backward 88 = .ok (.ifCond .ne 51, 3) := by decide +kernel
theorem dX12_backward_91 : decode cX12_backward 91 = .ok (.aload_n 0, 1) := by decide +kernel
theorem dX12_backward_92 : decode cX12_backward 92 = .ok (.getfield 130, 3) := by decide +kernel
theorem dX12_backward_95 : decode cX12_backward 95 = .ok (.iload 4, 2) := by decide +kernel
theorem dX12_backward_97 : decode cX12_backward 97 = .ok (.iaload, 1) := by decide +kernel
theorem dX12_backward_98 : decode cX12_backward 98 = .ok (.ifCond .eq 35, 3) := by decide +kernel
theorem dX12_backward_101 : decode cX12_backward 101 = .ok (.aload_n 0, 1) := by decide +kernel
theorem dX12_backward_102 : decode cX12_backward 102 = .ok (.getfield 167, 3) := by decide +kernel
theorem dX12_backward_105 : decode cX12_backward 105 = .ok (.iload 4, 2) := by decide +kernel
theorem dX12_backward_107 : decode cX12_backward 107 = .ok (.laload, 1) := by decide +kernel
theorem dX12_backward_108 : decode cX12_backward 108 = .ok (.lconst 0, 1) := by decide +kernel
theorem dX12_backward_109 : decode cX12_backward 109 = .ok (.lcmp, 1) := by decide +kernel
theorem dX12_backward_110 : decode cX12_backward 110 = .ok (.ifCond .eq 23, 3) := by decide +kernel
theorem dX12_backward_113 : decode cX12_backward 113 = .ok (.aload_n 0, 1) := by decide +kernel
theorem dX12_backward_114 : decode cX12_backward 114 = .ok (.iload 4, 2) := by decide +kernel
theorem dX12_backward_116 : decode cX12_backward 116 = .ok (.aload_n 0, 1) := by decide +kernel
theorem dX12_backward_117 : decode cX12_backward 117 = .ok (.getfield 167, 3) := by decide +kernel
theorem dX12_backward_120 : decode cX12_backward 120 = .ok (.iload 4, 2) := by decide +kernel
theorem dX12_backward_122 : decode cX12_backward 122 = .ok (.laload, 1) := by decide +kernel
theorem dX12_backward_123 : decode cX12_backward 123 = .ok (.aload_n 0, 1) := by decide +kernel
theorem dX12_backward_124 : decode cX12_backward 124 = .ok (.getfield 170, 3) := by decide +kernel
theorem dX12_backward_127 : decode cX12_backward 127 = .ok (.iload 4, 2) := by decide +kernel
theorem dX12_backward_129 : decode cX12_backward 129 = .ok (.laload, 1) := by decide +kernel
theorem dX12_backward_130 : decode cX12_backward 130 = .ok (.invokevirtual 474, 3) := by decide +kernel
theorem dX12_backward_133 : decode cX12_backward 133 = .ok (.iinc 4 (-1), 3) := by decide +kernel
theorem dX12_backward_136 : decode cX12_backward 136 = .ok (.goto (-57), 3) := by decide +kernel
theorem dX12_backward_139 : decode cX12_backward 139 = .ok (.aload_n 0, 1) := by decide +kernel
theorem dX12_backward_140 : decode cX12_backward 140 = .ok (.getfield 384, 3) := by decide +kernel
theorem dX12_backward_143 : decode cX12_backward 143 = .ok (.ifCond .eq 9, 3) := by decide +kernel
theorem dX12_backward_146 : decode cX12_backward 146 = .ok (.ldc2_w 406, 3) := by decide +kernel
theorem dX12_backward_149 : decode cX12_backward 149 = .ok (.goto 22, 3) := by decide +kernel
theorem dX12_backward_152 : decode cX12_backward 152 = .ok (.iload_n 3, 1) := by decide +kernel
theorem dX12_backward_153 : decode cX12_backward 153 = .ok (.ifCond .eq 12, 3) := by decide +kernel
theorem dX12_backward_156 : decode cX12_backward 156 = .ok (.aload_n 0, 1) := by decide +kernel
theorem dX12_backward_157 : decode cX12_backward 157 = .ok (.getfield 167, 3) := by decide +kernel
theorem dX12_backward_160 : decode cX12_backward 160 = .ok (.iload_n 2, 1) := by decide +kernel
theorem dX12_backward_161 : decode cX12_backward 161 = .ok (.laload, 1) := by decide +kernel
theorem dX12_backward_162 : decode cX12_backward 162 = .ok (.goto 9, 3) := by decide +kernel
theorem dX12_backward_165 : decode cX12_backward 165 = .ok (.aload_n 0, 1) := by decide +kernel
theorem dX12_backward_166 : decode cX12_backward 166 = .ok (.getfield 170, 3) := by decide +kernel
theorem dX12_backward_169 : decode cX12_backward 169 = .ok (.iload_n 2, 1) := by decide +kernel
theorem dX12_backward_170 : decode cX12_backward 170 = .ok (.laload, 1) := by decide +kernel
theorem dX12_backward_171 : decode cX12_backward 171 = .ok (.lreturn, 1) := by decide +kernel
theorem dX12_twice_0 : decode cX12_twice 0 = .ok (.aload_n 0, 1) := by decide +kernel
theorem dX12_twice_1 : decode cX12_twice 1 = .ok (.iload_n 1, 1) := by decide +kernel
theorem dX12_twice_2 : decode cX12_twice 2 = .ok (.invokevirtual 454, 3) := by decide +kernel
theorem dX12_twice_5 : decode cX12_twice 5 = .ok (.ifCond .eq 19, 3) := by decide +kernel
theorem dX12_twice_8 : decode cX12_twice 8 = .ok (.aload_n 0, 1) := by decide +kernel
theorem dX12_twice_9 : decode cX12_twice 9 = .ok (.iload_n 2, 1) := by decide +kernel
theorem dX12_twice_10 : decode cX12_twice 10 = .ok (.invokevirtual 464, 3) := by decide +kernel
theorem dX12_twice_13 : decode cX12_twice 13 = .ok (.ifCond .eq 11, 3) := by decide +kernel
theorem dX12_twice_16 : decode cX12_twice 16 = .ok (.aload_n 0, 1) := by decide +kernel
theorem dX12_twice_17 : decode cX12_twice 17 = .ok (.iload_n 3, 1) := by decide +kernel
theorem dX12_twice_18 : decode cX12_twice 18 = .ok (.invokevirtual 464, 3) := by decide +kernel
theorem dX12_twice_21 : decode cX12_twice 21 = .ok (.ifCond .ne 7, 3) := by decide +kernel
theorem dX12_twice_24 : decode cX12_twice 24 = .ok (.ldc2_w 406, 3) := by decide +kernel
theorem dX12_twice_27 : decode cX12_twice 27 = .ok (.lreturn, 1) := by decide +kernel
theorem dX12_twice_28 : decode cX12_twice 28 = .ok (.aload_n 0, 1) := by decide +kernel
theorem dX12_twice_29 : decode cX12_twice 29 = .ok (.iload_n 1, 1) := by decide +kernel
theorem dX12_twice_30 : decode cX12_twice 30 = .ok (.invokevirtual 467, 3) := by decide +kernel
theorem dX12_twice_33 : decode cX12_twice 33 = .ok (.aload_n 0, 1) := by decide +kernel
theorem dX12_twice_34 : decode cX12_twice 34 = .ok (.iload_n 1, 1) := by decide +kernel
theorem dX12_twice_35 : decode cX12_twice 35 = .ok (.iload_n 2, 1) := by decide +kernel
theorem dX12_twice_36 : decode cX12_twice 36 = .ok (.iconst 0, 1) := by decide +kernel
theorem dX12_twice_37 : decode cX12_twice 37 = .ok (.invokevirtual 470, 3) := by decide +kernel
theorem dX12_twice_40 : decode cX12_twice 40 = .ok (.ifCond .eq 13, 3) := by decide +kernel
theorem dX12_twice_43 : decode cX12_twice 43 = .ok (.aload_n 0, 1) := by decide +kernel
theorem dX12_twice_44 : decode cX12_twice 44 = .ok (.iload_n 1, 1) := by decide +kernel
theorem dX12_twice_45 : decode cX12_twice 45 = .ok (.iload_n 3, 1) := by decide +kernel
theorem dX12_twice_46 : decode cX12_twice 46 = .ok (.iconst 1, 1) := by decide +kernel
theorem dX12_twice_47 : decode cX12_twice 47 = .ok (.invokevirtual 470, 3) := by decide +kernel
theorem dX12_twice_50 : decode cX12_twice 50 = .ok (.ifCond .ne 7, 3) := by decide +kernel
theorem dX12_twice_53 : decode cX12_twice 53 = .ok (.ldc2_w 406, 3) := by decide +kernel
theorem dX12_twice_56 : decode cX12_twice 56 = .ok (.lreturn, 1) := by decide +kernel
theorem dX12_twice_57 : decode cX12_twice 57 = .ok (.aload_n 0, 1) := by decide +kernel
theorem dX12_twice_58 : decode cX12_twice 58 = .ok (.iconst 0, 1) := by decide +kernel
theorem dX12_twice_59 : decode cX12_twice 59 = .ok (.putfield 384, 3) := by decide +kernel
theorem dX12_twice_62 : decode cX12_twice 62 = .ok (.iconst 0, 1) := by decide +kernel
theorem dX12_twice_63 : decode cX12_twice 63 = .ok (.istore 5, 2) := by decide +kernel
theorem dX12_twice_65 : decode cX12_twice 65 = .ok (.iload 5, 2) := by decide +kernel
theorem dX12_twice_67 : decode cX12_twice 67 = .ok (.aload_n 0, 1) := by decide +kernel
theorem dX12_twice_68 : decode cX12_twice 68 = .ok (.getfield 139, 3) := by decide +kernel
theorem dX12_twice_71 : decode cX12_twice 71 = .ok (.iconst 0, 1) := by decide +kernel
theorem dX12_twice_72 : decode cX12_twice 72 = .ok (.iaload, 1) := by decide +kernel
theorem dX12_twice_73 : decode cX12_twice 73 = .ok (.if_icmp .ge 54, 3) := by decide +kernel
theorem dX12_twice_76 : decode cX12_twice 76 = .ok (.aload_n 0, 1) := by decide +kernel
theorem dX12_twice_77 : decode cX12_twice 77 = .ok (.getfield 384, 3) := by decide +kernel
theorem dX12_twice_80 : decode cX12_twice 80 = .ok (.ifCond .ne 47, 3) := by decide +kernel
theorem dX12_twice_83 : decode cX12_twice 83 = .ok (.aload_n 0, 1) := by decide +kernel
theorem dX12_twice_84 : decode cX12_twice 84 = .ok (.getfield 163, 3) := by decide +kernel
theorem dX12_twice_87 : decode cX12_twice 87 = .ok (.iload 5, 2) := by decide +kernel
theorem dX12_twice_89 : decode cX12_twice 89 = .ok (.baload, 1) := by decide +kernel
theorem dX12_twice_90 : decode cX12_twice 90 = .ok (.ifCond .ne 6, 3) := by decide +kernel
theorem dX12_twice_93 : decode cX12_twice 93 = .ok (.goto 28, 3) := by decide +kernel
theorem dX12_twice_96 : decode cX12_twice 96 = .ok (.aload_n 0, 1) := by decide +kernel
theorem dX12_twice_97 : decode cX12_twice 97 = .ok (.iconst 2, 1) := by decide +kernel
theorem dX12_twice_98 : decode cX12_twice 98 = .ok (.iload 5, 2) := by decide +kernel
theorem dX12_twice_100 : decode cX12_twice 100 = .ok (.lconst 0, 1) := by decide +kernel
theorem dX12_twice_101 : decode cX12_twice 101 = .ok (.lconst 1, 1) := by decide +kernel
theorem dX12_twice_102 : decode cX12_twice 102 = .ok (.invokevirtual 457, 3) := by decide +kernel
theorem dX12_twice_105 : decode cX12_twice 105 = .ok (.aload_n 0, 1) := by decide +kernel
theorem dX12_twice_106 : decode cX12_twice 106 = .ok (.getfield 130, 3) := by decide +kernel
theorem dX12_twice_109 : decode cX12_twice 109 = .ok (.iload 5, 2) := by decide +kernel
theorem dX12_twice_111 : decode cX12_twice 111 = .ok (.iaload, 1) := by decide +kernel
theorem dX12_twice_112 : decode cX12_twice 112 = .ok (.ifCond .eq 9, 3) := by decide +kernel
theorem dX12_twice_115 : decode cX12_twice 115 = .ok (.aload_n 0, 1) := by decide +kernel
theorem dX12_twice_116 : decode cX12_twice 116 = .ok (.iload 5, 2) := by decide +kernel
theorem dX12_twice_118 : decode cX12_twice 118 = .ok (.invokevirtual 481, 3) := by decide +kernel
theorem dX12_twice_121 : decode cX12_twice 121 = .ok (.iinc 5 1, 3) := by decide +kernel
theorem dX12_twice_124 : decode cX12_twice 124 = .ok (.goto (-59), 3) := by decide +kernel
theorem dX12_twice_127 : decode cX12_twice 127 = .ok (.aload_n 0, 1) := by decide +kernel
theorem dX12_twice_128 : decode cX12_twice 128 = .ok (.getfield 384, 3) := by decide +kernel
theorem dX12_twice_131 : decode cX12_twice 131 = .ok (.ifCond .eq 9, 3) := by decide +kernel
theorem dX12_twice_134 : decode cX12_twice 134 = .ok (.ldc2_w 406, 3) := by decide +kernel
theorem dX12_twice_137 : decode cX12_twice 137 = .ok (.goto 41, 3) := by decide +kernel
theorem dX12_twice_140 : decode cX12_twice 140 = .ok (.iload 4, 2) := by decide +kernel
theorem dX12_twice_142 : decode cX12_twice 142 = .ok (.ifCond .eq 21, 3) := by decide +kernel
theorem dX12_twice_145 : decode cX12_twice 145 = .ok (.aload_n 0, 1) := by decide +kernel
theorem dX12_twice_146 : decode cX12_twice 146 = .ok (.getfield 167, 3) := by decide +kernel
theorem dX12_twice_149 : decode cX12_twice 149 = .ok (.sipush 3520, 3) := by decide +kernel
theorem dX12_twice_152 : decode cX12_twice 152 = .ok (.aload_n 0, 1) := by decide +kernel
theorem dX12_twice_153 : decode cX12_twice 153 = .ok (.getfield 148, 3) := by decide +kernel
theorem dX12_twice_156 : decode cX12_twice 156 = .ok (.iload_n 1, 1) := by decide +kernel
theorem dX12_twice_157 : decode cX12_twice 157 = .ok (.iaload, 1) := by decide +kernel
theorem dX12_twice_158 : decode cX12_twice 158 = .ok (.iadd, 1) := by decide +kernel
theorem dX12_twice_159 : decode cX12_twice 159 = .ok (.laload, 1) := by decide +kernel
theorem dX12_twice_160 : decode cX12_twice 160 = .ok (.goto 18, 3) := by decide +kernel
theorem dX12_twice_163 : decode cX12_twice 163 = .ok (.aload_n 0, 1) := by decide +kernel
theorem dX12_twice_164 : decode cX12_twice 164 = .ok (.getfield 170, 3) := by decide +kernel
theorem dX12_twice_167 : decode cX12_twice 167 = .ok (.sipush 3520, 3) := by decide +kernel
theorem dX12_twice_170 : decode cX12_twice 170 = .ok (.aload_n 0, 1) := by decide +kernel
theorem dX12_twice_171 : decode cX12_twice 171 = .ok (.getfield 148, 3) := by decide +kernel
theorem dX12_twice_174 : decode cX12_twice 174 = .ok (.iload_n 1, 1) := by decide +kernel
theorem dX12_twice_175 : decode cX12_twice 175 = .ok (.iaload, 1) := by decide +kernel
theorem dX12_twice_176 : decode cX12_twice 176 = .ok (.iadd, 1) := by decide +kernel
theorem dX12_twice_177 : decode cX12_twice 177 = .ok (.laload, 1) := by decide +kernel
theorem dX12_twice_178 : decode cX12_twice 178 = .ok (.lreturn, 1) := by decide +kernel
theorem dX12_movesOf_0 : decode cX12_movesOf 0 = .ok (.aload_n 0, 1) := by decide +kernel
theorem dX12_movesOf_1 : decode cX12_movesOf 1 = .ok (.iload_n 1, 1) := by decide +kernel
theorem dX12_movesOf_2 : decode cX12_movesOf 2 = .ok (.invokevirtual 467, 3) := by decide +kernel
theorem dX12_movesOf_5 : decode cX12_movesOf 5 = .ok (.iconst 0, 1) := by decide +kernel
theorem dX12_movesOf_6 : decode cX12_movesOf 6 = .ok (.istore_n 2, 1) := by decide +kernel
theorem dX12_movesOf_7 : decode cX12_movesOf 7 = .ok (.iconst 0, 1) := by decide +kernel
theorem dX12_movesOf_8 : decode cX12_movesOf 8 = .ok (.istore_n 3, 1) := by decide +kernel
theorem dX12_movesOf_9 : decode cX12_movesOf 9 = .ok (.iload_n 3, 1) := by decide +kernel
theorem dX12_movesOf_10 : decode cX12_movesOf 10 = .ok (.aload_n 0, 1) := by decide +kernel
theorem dX12_movesOf_11 : decode cX12_movesOf 11 = .ok (.getfield 60, 3) := by decide +kernel
theorem dX12_movesOf_14 : decode cX12_movesOf 14 = .ok (.iconst 5, 1) := by decide +kernel
theorem dX12_movesOf_15 : decode cX12_movesOf 15 = .ok (.iaload, 1) := by decide +kernel
theorem dX12_movesOf_16 : decode cX12_movesOf 16 = .ok (.if_icmp .ge 24, 3) := by decide +kernel
theorem dX12_movesOf_19 : decode cX12_movesOf 19 = .ok (.aload_n 0, 1) := by decide +kernel
theorem dX12_movesOf_20 : decode cX12_movesOf 20 = .ok (.getfield 163, 3) := by decide +kernel
theorem dX12_movesOf_23 : decode cX12_movesOf 23 = .ok (.iload_n 3, 1) := by decide +kernel
theorem dX12_movesOf_24 : decode cX12_movesOf 24 = .ok (.baload, 1) := by decide +kernel
theorem dX12_movesOf_25 : decode cX12_movesOf 25 = .ok (.ifCond .eq 9, 3) := by decide +kernel
theorem dX12_movesOf_28 : decode cX12_movesOf 28 = .ok (.iload_n 2, 1) := by decide +kernel
theorem dX12_movesOf_29 : decode cX12_movesOf 29 = .ok (.iconst 1, 1) := by decide +kernel
theorem dX12_movesOf_30 : decode cX12_movesOf 30 = .ok (.iload_n 3, 1) := by decide +kernel
theorem dX12_movesOf_31 : decode cX12_movesOf 31 = .ok (.ishl, 1) := by decide +kernel
theorem dX12_movesOf_32 : decode cX12_movesOf 32 = .ok (.ior, 1) := by decide +kernel
theorem dX12_movesOf_33 : decode cX12_movesOf 33 = .ok (.istore_n 2, 1) := by decide +kernel
theorem dX12_movesOf_34 : decode cX12_movesOf 34 = .ok (.iinc 3 1, 3) := by decide +kernel
theorem dX12_movesOf_37 : decode cX12_movesOf 37 = .ok (.goto (-28), 3) := by decide +kernel
theorem dX12_movesOf_40 : decode cX12_movesOf 40 = .ok (.iload_n 2, 1) := by decide +kernel
theorem dX12_movesOf_41 : decode cX12_movesOf 41 = .ok (.ireturn, 1) := by decide +kernel
theorem dX12_moves_0 : decode cX12_moves 0 = .ok (.aload_n 0, 1) := by decide +kernel
theorem dX12_moves_1 : decode cX12_moves 1 = .ok (.iload_n 1, 1) := by decide +kernel
theorem dX12_moves_2 : decode cX12_moves 2 = .ok (.invokevirtual 454, 3) := by decide +kernel
theorem dX12_moves_5 : decode cX12_moves 5 = .ok (.ifCond .eq 11, 3) := by decide +kernel
theorem dX12_moves_8 : decode cX12_moves 8 = .ok (.aload_n 0, 1) := by decide +kernel
theorem dX12_moves_9 : decode cX12_moves 9 = .ok (.iload_n 1, 1) := by decide +kernel
theorem dX12_moves_10 : decode cX12_moves 10 = .ok (.invokevirtual 484, 3) := by decide +kernel
theorem dX12_moves_13 : decode cX12_moves 13 = .ok (.goto 4, 3) := by decide +kernel
theorem dX12_moves_16 : decode cX12_moves 16 = .ok (.iconst (-1), 1) := by decide +kernel
theorem dX12_moves_17 : decode cX12_moves 17 = .ok (.ireturn, 1) := by decide +kernel
theorem dX12_ways_0 : decode cX12_ways 0 = .ok (.aload_n 0, 1) := by decide +kernel
theorem dX12_ways_1 : decode cX12_ways 1 = .ok (.iload_n 1, 1) := by decide +kernel
theorem dX12_ways_2 : decode cX12_ways 2 = .ok (.invokevirtual 454, 3) := by decide +kernel
theorem dX12_ways_5 : decode cX12_ways 5 = .ok (.ifCond .eq 11, 3) := by decide +kernel
theorem dX12_ways_8 : decode cX12_ways 8 = .ok (.aload_n 0, 1) := by decide +kernel
theorem dX12_ways_9 : decode cX12_ways 9 = .ok (.iload_n 2, 1) := by decide +kernel
theorem dX12_ways_10 : decode cX12_ways 10 = .ok (.invokevirtual 464, 3) := by decide +kernel
theorem dX12_ways_13 : decode cX12_ways 13 = .ok (.ifCond .ne 5, 3) := by decide +kernel
theorem dX12_ways_16 : decode cX12_ways 16 = .ok (.iconst (-1), 1) := by decide +kernel
theorem dX12_ways_17 : decode cX12_ways 17 = .ok (.ireturn, 1) := by decide +kernel
theorem dX12_ways_18 : decode cX12_ways 18 = .ok (.iconst 0, 1) := by decide +kernel
theorem dX12_ways_19 : decode cX12_ways 19 = .ok (.istore_n 3, 1) := by decide +kernel
theorem dX12_ways_20 : decode cX12_ways 20 = .ok (.iload_n 3, 1) := by decide +kernel
theorem dX12_ways_21 : decode cX12_ways 21 = .ok (.aload_n 0, 1) := by decide +kernel
theorem dX12_ways_22 : decode cX12_ways 22 = .ok (.getfield 139, 3) := by decide +kernel
theorem dX12_ways_25 : decode cX12_ways 25 = .ok (.iconst 0, 1) := by decide +kernel
theorem dX12_ways_26 : decode cX12_ways 26 = .ok (.iaload, 1) := by decide +kernel
theorem dX12_ways_27 : decode cX12_ways 27 = .ok (.if_icmp .ge 136, 3) := by decide +kernel
theorem dX12_ways_30 : decode cX12_ways 30 = .ok (.aload_n 0, 1) := by decide +kernel
theorem dX12_ways_31 : decode cX12_ways 31 = .ok (.getfield 173, 3) := by decide +kernel
theorem dX12_ways_34 : decode cX12_ways 34 = .ok (.iload_n 3, 1) := by decide +kernel
theorem dX12_ways_35 : decode cX12_ways 35 = .ok (.iload_n 3, 1) := by decide +kernel
theorem dX12_ways_36 : decode cX12_ways 36 = .ok (.iload_n 2, 1) := by decide +kernel
theorem dX12_ways_37 : decode cX12_ways 37 = .ok (.if_icmp .ne 7, 3) := by decide +kernel
theorem dX12_ways_40 : decode cX12_ways 40 = .ok (.lconst 1, 1) := by decide +kernel
theorem dX12_ways_41 : decode cX12_ways 41 = .ok (.goto 4, 3) := by decide +kernel
theorem dX12_ways_44 : decode cX12_ways 44 = .ok (.lconst 0, 1) := by decide +kernel
theorem dX12_ways_45 : decode cX12_ways 45 = .ok (.lastore, 1) := by decide +kernel
theorem dX12_ways_46 : decode cX12_ways 46 = .ok (.aload_n 0, 1) := by decide +kernel
theorem dX12_ways_47 : decode cX12_ways 47 = .ok (.getfield 130, 3) := by decide +kernel
theorem dX12_ways_50 : decode cX12_ways 50 = .ok (.iload_n 3, 1) := by decide +kernel
theorem dX12_ways_51 : decode cX12_ways 51 = .ok (.iaload, 1) := by decide +kernel
theorem dX12_ways_52 : decode cX12_ways 52 = .ok (.ifCond .ne 6, 3) := by decide +kernel
theorem dX12_ways_55 : decode cX12_ways 55 = .ok (.goto 102, 3) := by decide +kernel
theorem dX12_ways_58 : decode cX12_ways 58 = .ok (.aload_n 0, 1) := by decide +kernel
theorem dX12_ways_59 : decode cX12_ways 59 = .ok (.getfield 130, 3) := by decide +kernel
theorem dX12_ways_62 : decode cX12_ways 62 = .ok (.iload_n 3, 1) := by decide +kernel
theorem dX12_ways_63 : decode cX12_ways 63 = .ok (.iaload, 1) := by decide +kernel
theorem dX12_ways_64 : decode cX12_ways 64 = .ok (.iconst 5, 1) := by decide +kernel
theorem dX12_ways_65 : decode cX12_ways 65 = .ok (.if_icmp .eq 25, 3) := by decide +kernel
theorem dX12_ways_68 : decode cX12_ways 68 = .ok (.aload_n 0, 1) := by decide +kernel
theorem dX12_ways_69 : decode cX12_ways 69 = .ok (.getfield 130, 3) := by decide +kernel
theorem dX12_ways_72 : decode cX12_ways 72 = .ok (.iload_n 3, 1) := by decide +kernel
theorem dX12_ways_73 : decode cX12_ways 73 = .ok (.iaload, 1) := by decide +kernel
theorem dX12_ways_74 : decode cX12_ways 74 = .ok (.bipush 6, 2) := by decide +kernel
theorem dX12_ways_76 : decode cX12_ways 76 = .ok (.if_icmp .eq 14, 3) := by decide +kernel
theorem dX12_ways_79 : decode cX12_ways 79 = .ok (.aload_n 0, 1) := by decide +kernel
theorem dX12_ways_80 : decode cX12_ways 80 = .ok (.getfield 130, 3) := by decide +kernel
theorem dX12_ways_83 : decode cX12_ways 83 = .ok (.iload_n 3, 1) := by decide +kernel
theorem dX12_ways_84 : decode cX12_ways 84 = .ok (.iaload, 1) := by decide +kernel
theorem dX12_ways_85 : decode cX12_ways 85 = .ok (.bipush 7, 2) := by decide +kernel
theorem dX12_ways_87 : decode cX12_ways 87 = .ok (.if_icmp .ne 7, 3) := by decide +kernel
theorem dX12_ways_90 : decode cX12_ways 90 = .ok (.iconst 1, 1) := by decide +kernel
theorem dX12_ways_91 : decode cX12_ways 91 = .ok (.goto 4, 3) := by decide +kernel
theorem dX12_ways_94 : decode cX12_ways 94 = .ok (.iconst 0, 1) := by decide +kernel
theorem dX12_ways_95 : decode cX12_ways 95 = .ok (.istore 4, 2) := by decide +kernel
theorem dX12_ways_97 : decode cX12_ways 97 = .ok (.aload_n 0, 1) := by decide +kernel
theorem dX12_ways_98 : decode cX12_ways 98 = .ok (.getfield 173, 3) := by decide +kernel
theorem dX12_ways_101 : decode cX12_ways 101 = .ok (.iload_n 3, 1) := by decide +kernel
theorem dX12_ways_102 : decode cX12_ways 102 = .ok (.aload_n 0, 1) := by decide +kernel
theorem dX12_ways_103 : decode cX12_ways 103 = .ok (.getfield 173, 3) := by decide +kernel
theorem dX12_ways_106 : decode cX12_ways 106 = .ok (.aload_n 0, 1) := by decide +kernel
theorem dX12_ways_107 : decode cX12_ways 107 = .ok (.getfield 133, 3) := by decide +kernel
theorem dX12_ways_110 : decode cX12_ways 110 = .ok (.iload_n 3, 1) := by decide +kernel
theorem dX12_ways_111 : decode cX12_ways 111 = .ok (.iaload, 1) := by decide +kernel
theorem dX12_ways_112 : decode cX12_ways 112 = .ok (.laload, 1) := by decide +kernel
theorem dX12_ways_113 : decode cX12_ways 113 = .ok (.iload 4, 2) := by decide +kernel
theorem dX12_ways_115 : decode cX12_ways 115 = .ok (.ifCond .eq 7, 3) := by decide +kernel
theorem dX12_ways_118 : decode cX12_ways 118 = .ok (.lconst 0, 1) := by decide +kernel
theorem dX12_ways_119 : decode cX12_ways 119 = .ok (.goto 14, 3) := by decide +kernel
theorem dX12_ways_122 : decode cX12_ways 122 = .ok (.aload_n 0, 1) := by decide +kernel
theorem dX12_ways_123 : decode cX12_ways 123 = .ok (.getfield 173, 3) := by decide +kernel
theorem dX12_ways_126 : decode cX12_ways 126 = .ok (.aload_n 0, 1) := by decide +kernel
theorem dX12_ways_127 : decode cX12_ways 127 = .ok (.getfield 136, 3) := by decide +kernel
theorem dX12_ways_130 : decode cX12_ways 130 = .ok (.iload_n 3, 1) := by decide +kernel
theorem dX12_ways_131 : decode cX12_ways 131 = .ok (.iaload, 1) := by decide +kernel
theorem dX12_ways_132 : decode cX12_ways 132 = .ok (.laload, 1) := by decide +kernel
theorem dX12_ways_133 : decode cX12_ways 133 = .ok (.ladd, 1) := by decide +kernel
theorem dX12_ways_134 : decode cX12_ways 134 = .ok (.lastore, 1) := by decide +kernel
theorem dX12_ways_135 : decode cX12_ways 135 = .ok (.aload_n 0, 1) := by decide +kernel
theorem dX12_ways_136 : decode cX12_ways 136 = .ok (.getfield 173, 3) := by decide +kernel
theorem dX12_ways_139 : decode cX12_ways 139 = .ok (.iload_n 3, 1) := by decide +kernel
theorem dX12_ways_140 : decode cX12_ways 140 = .ok (.laload, 1) := by decide +kernel
theorem dX12_ways_141 : decode cX12_ways 141 = .ok (.ldc2_w 398, 3) := by decide +kernel
theorem dX12_ways_144 : decode cX12_ways 144 = .ok (.lcmp, 1) := by decide +kernel
theorem dX12_ways_145 : decode cX12_ways 145 = .ok (.ifCond .le 12, 3) := by decide +kernel
theorem dX12_ways_148 : decode cX12_ways 148 = .ok (.aload_n 0, 1) := by decide +kernel
theorem dX12_ways_149 : decode cX12_ways 149 = .ok (.getfield 173, 3) := by decide +kernel
theorem dX12_ways_152 : decode cX12_ways 152 = .ok (.iload_n 3, 1) := by decide +kernel
theorem dX12_ways_153 : decode cX12_ways 153 = .ok (.ldc2_w 398, 3) := by decide +kernel
theorem dX12_ways_156 : decode cX12_ways 156 = .ok (.lastore, 1) := by decide +kernel
theorem dX12_ways_157 : decode cX12_ways 157 = .ok (.iinc 3 1, 3) := by decide +kernel
theorem dX12_ways_160 : decode cX12_ways 160 = .ok (.goto (-140), 3) := by decide +kernel
theorem dX12_ways_163 : decode cX12_ways 163 = .ok (.aload_n 0, 1) := by decide +kernel
theorem dX12_ways_164 : decode cX12_ways 164 = .ok (.getfield 173, 3) := by decide +kernel
theorem dX12_ways_167 : decode cX12_ways 167 = .ok (.aload_n 0, 1) := by decide +kernel
theorem dX12_ways_168 : decode cX12_ways 168 = .ok (.getfield 148, 3) := by decide +kernel
theorem dX12_ways_171 : decode cX12_ways 171 = .ok (.iload_n 1, 1) := by decide +kernel
theorem dX12_ways_172 : decode cX12_ways 172 = .ok (.iaload, 1) := by decide +kernel
theorem dX12_ways_173 : decode cX12_ways 173 = .ok (.laload, 1) := by decide +kernel
theorem dX12_ways_174 : decode cX12_ways 174 = .ok (.l2i, 1) := by decide +kernel
theorem dX12_ways_175 : decode cX12_ways 175 = .ok (.ireturn, 1) := by decide +kernel
def v_q_isResult : List Cond := .code yX12_isResult cX12_isResult 2 (some .boolean) :: ([.fieldLink RX12 371 "SlopeRunnerModel" "hasRun" "Z", .fieldLink RX12 145 "SlopeRunnerModel" "results" "[I"] ++ ((wsS RX12 231 yX12_isIn v_q_isIn) ++ wsX120))
theorem g_q_isResult_0 : GoodIn v_q_isResult (wsS RX12 231 yX12_isIn v_q_isIn) := goodIn_sub (fun w h => List.mem_cons_of_mem _ (List.mem_append_right _ (List.mem_append_left _ h))) (by decide +kernel)
set_option maxHeartbeats 4000000 in
set_option maxRecDepth 100000 in
theorem q_isResult (l : Launch) (D : va_G) (y : Nat → ClassId) (sz : Nat) (ad : Nat → Nat) (zw : Nat → Nat → Int32) (σ : OS) (k : Int32) (hB64 : bI (σ.2.2.1 64) 0 12) : Met l yX12_isResult v_q_isResult ({ frames := 1, cells := 0, slots := 0, locals := 25 } : Room) (va_Pc [.ref (ad 1), .int k] (xPre D (xT y) (mwd y ad zw σ) sz)) (va_Qi (fun (r : Int32) (_ : Unit) => r.toInt = 0 ∨ (r.toInt = 1 ∧ 0 ≤ k.toInt ∧ k.toInt ≤ 11)) (fun (u : Unit) => xB D (xT y) (va_A (mwd y ad zw σ) sz) (mwd y ad zw σ)) (va_A (mwd y ad zw σ) sz)) 0 0 (va_A (mwd y ad zw σ) sz) := by
  refine x_meti (cc := cX12_isResult) (maxL := 2) (by decide) rfl (Nat.le_of_ble_eq_true rfl) ?_
  intro p e s m below meth c A H locs Q hx hb hml hown hts hr hlocks hmn hA hP hK hD hS ls hl hQ
  have hl : lv_has ls 2 [(0, .ref (ad 1)), (1, .int k)] := hl
  have fl371 := hts (.fieldLink RX12 371 "SlopeRunnerModel" "hasRun" "Z") (List.mem_of_getElem? (i := 1) rfl)
  have inX12 : ∀ w ∈ wsX120, w ∈ v_q_isResult := (fun w h => List.mem_cons_of_mem _ (List.mem_append_right _ (List.mem_append_right _ h)))
  have kk_0 : (0 : Int32).toInt = 0 := rfl
  have fl145 := hts (.fieldLink RX12 145 "SlopeRunnerModel" "results" "[I") (List.mem_of_getElem? (i := 2) rfl)
  have kk_1 : (1 : Int32).toInt = 1 := rfl
  have kl_0 : (0 : Int64).toInt = 0 := rfl
  refine lv_aload_n hx hb dX12_isResult_0 rfl (lv_at hl 0 rfl) ?_
  refine va_get (D := D) (ci := 11) (v := .int (σ.1 54)) (C := RX12) (T := TX12) (N := 85) hx hb hts inX12 hown hK hP 0 mwd_o0 rfl 54 (by decide) fl371 (fun _ h9 => h9) rfl dX12_isResult_1 ?_
  refine lv_if_eq (tgt := 29) hx hb dX12_isResult_4 (by decide) (fun c_1 => ?_) (fun c_1 => ?_)
  · have kc_1 : (σ.1 54).toInt = 0 := by have h9 := c_1; simp only [ge_iff_le, gt_iff_lt, x_lt, x_le, x_eq, ne_eq, Int32.not_lt, Int32.not_le] at h9; simp only [Int32.reduceToInt] at h9; omega
    refine lv_iconst (v := 0) hx hb dX12_isResult_29 (by decide) ?_
    exact x_zretW (v := 0) (u := ()) hx hb hr hQ rfl (by omega) hP hD hK hS dX12_isResult_30 hlocks
  · have kc_1 : (σ.1 54).toInt ≠ 0 := by have h9 := c_1; simp only [ge_iff_le, gt_iff_lt, x_lt, x_le, x_eq, ne_eq, Int32.not_lt, Int32.not_le] at h9; simp only [Int32.reduceToInt] at h9; omega
    refine lv_iload_n hx hb dX12_isResult_7 rfl (lv_at hl 1 rfl) ?_
    refine lv_i2l hx hb dX12_isResult_8 rfl ?_
    refine lv_topl (fun j_2 ej_2 => ?_)
    have vj_2 : j_2.toInt = k.toInt := by rw [ej_2]; exact Int32.toInt_toInt64 _
    refine lv_lconst (v := 0) hx hb dX12_isResult_9 (by decide) ?_
    refine lv_aload_n hx hb dX12_isResult_10 rfl (lv_at hl 0 rfl) ?_
    refine va_get (D := D) (ci := 11) (v := .ref (ad 64)) (C := RX12) (T := TX12) (N := 85) hx hb hts inX12 hown hK hP 0 mwd_o0 rfl 64 (by decide) fl145 (fun _ h9 => h9) rfl dX12_isResult_11 ?_
    refine lv_iconst (v := 0) hx hb dX12_isResult_14 (by decide) ?_
    refine va_iald hx hb hK hP 44 2 mwd_a44 rfl (x_in (by decide) (by decide)) dX12_isResult_15 ?_
    refine lv_topi (fun i_3 ei_3 => ?_)
    have ei_3 : i_3 = (σ.2.2.1 64) (Int32.toNatClampNeg 0) := ei_3
    have bi_3 := b_at hB64 ei_3
    refine lv_iconst (v := 1) hx hb dX12_isResult_16 (by decide) ?_
    refine lv_isub hx hb dX12_isResult_17 ?_
    refine lv_topi (fun i_4 ei_4 => ?_)
    have vi_4 : i_4.toInt = i_3.toInt - 1 := by have h9 := x_sub ei_4 (by omega) (by omega); omega
    refine lv_i2l hx hb dX12_isResult_18 rfl ?_
    refine lv_topl (fun j_5 ej_5 => ?_)
    have vj_5 : j_5.toInt = i_4.toInt := by rw [ej_5]; exact Int32.toInt_toInt64 _
    refine x_calliN (va_runS (As := [.long j_2, .long 0, .long j_5]) (rest := []) ⟨hx, hb, hml, hown, hts⟩ (q_isIn l D y H.size j_2 0 j_5) (cwS 3 hts g_q_isResult_0 rfl rfl rfl (by decide +kernel) ⟨Nat.le_of_ble_eq_true rfl, Nat.le_of_ble_eq_true rfl⟩) (x_preS hK (x_nilP D H) (x_nilD A)) rfl rfl hl.1 rfl (lv_room (Nat.le_of_ble_eq_true rfl)) dX12_isResult_19 ⟨Nat.le_of_ble_eq_true rfl, Nat.le_of_ble_eq_true rfl⟩) hP hD hS hA (fun r_6 u H locs hw hP hD hS => ?_)
    try dsimp only at hw
    refine lv_if_eq (tgt := 29) hx hb dX12_isResult_22 (by decide) (fun c_7 => ?_) (fun c_7 => ?_)
    · have kc_7 : r_6.toInt = 0 := by have h9 := c_7; simp only [ge_iff_le, gt_iff_lt, x_lt, x_le, x_eq, ne_eq, Int32.not_lt, Int32.not_le] at h9; simp only [Int32.reduceToInt] at h9; omega
      refine lv_iconst (v := 0) hx hb dX12_isResult_29 (by decide) ?_
      exact x_zretW (v := 0) (u := ()) hx hb hr hQ rfl (by omega) hP hD hK hS dX12_isResult_30 hlocks
    · have kc_7 : r_6.toInt ≠ 0 := by have h9 := c_7; simp only [ge_iff_le, gt_iff_lt, x_lt, x_le, x_eq, ne_eq, Int32.not_lt, Int32.not_le] at h9; simp only [Int32.reduceToInt] at h9; omega
      refine lv_iconst (v := 1) hx hb dX12_isResult_25 (by decide) ?_
      refine lv_goto (tgt := 30) hx hb dX12_isResult_26 (by decide) ?_
      exact x_zretW (v := 1) (u := ()) hx hb hr hQ rfl (by omega) hP hD hK hS dX12_isResult_30 hlocks

def v_q_isInput : List Cond := .code yX12_isInput cX12_isInput 2 (some .boolean) :: ([.fieldLink RX12 60 "SlopeRunnerModel" "has" "[I"] ++ ((wsS RX12 231 yX12_isIn v_q_isIn) ++ wsX120))
theorem g_q_isInput_0 : GoodIn v_q_isInput (wsS RX12 231 yX12_isIn v_q_isIn) := goodIn_sub (fun w h => List.mem_cons_of_mem _ (List.mem_append_right _ (List.mem_append_left _ h))) (by decide +kernel)
set_option maxHeartbeats 4000000 in
set_option maxRecDepth 100000 in
theorem q_isInput (l : Launch) (D : va_G) (y : Nat → ClassId) (sz : Nat) (ad : Nat → Nat) (zw : Nat → Nat → Int32) (σ : OS) (k : Int32) (h5 : 0 ≤ (σ.2.2.1 24 5).toInt ∧ (σ.2.2.1 24 5).toInt ≤ 8) : Met l yX12_isInput v_q_isInput ({ frames := 1, cells := 0, slots := 0, locals := 25 } : Room) (va_Pc [.ref (ad 1), .int k] (xPre D (xT y) (mwd y ad zw σ) sz)) (va_Qi (fun (r : Int32) (_ : Unit) => r.toInt = 0 ∨ (r.toInt = 1 ∧ 0 ≤ k.toInt ∧ k.toInt ≤ 7)) (fun (u : Unit) => xB D (xT y) (va_A (mwd y ad zw σ) sz) (mwd y ad zw σ)) (va_A (mwd y ad zw σ) sz)) 0 0 (va_A (mwd y ad zw σ) sz) := by
  refine x_meti (cc := cX12_isInput) (maxL := 2) (by decide) rfl (Nat.le_of_ble_eq_true rfl) ?_
  intro p e s m below meth c A H locs Q hx hb hml hown hts hr hlocks hmn hA hP hK hD hS ls hl hQ
  have hl : lv_has ls 2 [(0, .ref (ad 1)), (1, .int k)] := hl
  have fl60 := hts (.fieldLink RX12 60 "SlopeRunnerModel" "has" "[I") (List.mem_of_getElem? (i := 1) rfl)
  have inX12 : ∀ w ∈ wsX120, w ∈ v_q_isInput := (fun w h => List.mem_cons_of_mem _ (List.mem_append_right _ (List.mem_append_right _ h)))
  have kk_1 : (1 : Int32).toInt = 1 := rfl
  have kl_0 : (0 : Int64).toInt = 0 := rfl
  refine lv_iload_n hx hb dX12_isInput_0 rfl (lv_at hl 1 rfl) ?_
  refine lv_i2l hx hb dX12_isInput_1 rfl ?_
  refine lv_topl (fun j_1 ej_1 => ?_)
  have vj_1 : j_1.toInt = k.toInt := by rw [ej_1]; exact Int32.toInt_toInt64 _
  refine lv_lconst (v := 0) hx hb dX12_isInput_2 (by decide) ?_
  refine lv_aload_n hx hb dX12_isInput_3 rfl (lv_at hl 0 rfl) ?_
  refine va_get (D := D) (ci := 11) (v := .ref (ad 24)) (C := RX12) (T := TX12) (N := 85) hx hb hts inX12 hown hK hP 0 mwd_o0 rfl 24 (by decide) fl60 (fun _ h9 => h9) rfl dX12_isInput_4 ?_
  refine lv_iconst (v := 5) hx hb dX12_isInput_7 (by decide) ?_
  refine va_iald hx hb hK hP 16 2 mwd_a16 rfl (x_in (by decide) (by decide)) dX12_isInput_8 ?_
  refine lv_topi (fun i_2 ei_2 => ?_)
  have ei_2 : i_2 = (σ.2.2.1 24) (Int32.toNatClampNeg 5) := ei_2
  have gi_2 : 0 ≤ i_2.toInt ∧ i_2.toInt ≤ 8 := by rw [show i_2 = σ.2.2.1 24 5 from ei_2]; exact h5
  refine lv_iconst (v := 1) hx hb dX12_isInput_9 (by decide) ?_
  refine lv_isub hx hb dX12_isInput_10 ?_
  refine lv_topi (fun i_3 ei_3 => ?_)
  have vi_3 : i_3.toInt = i_2.toInt - 1 := by have h9 := x_sub ei_3 (by omega) (by omega); omega
  refine lv_i2l hx hb dX12_isInput_11 rfl ?_
  refine lv_topl (fun j_4 ej_4 => ?_)
  have vj_4 : j_4.toInt = i_3.toInt := by rw [ej_4]; exact Int32.toInt_toInt64 _
  refine x_calliN (va_runS (As := [.long j_1, .long 0, .long j_4]) (rest := []) ⟨hx, hb, hml, hown, hts⟩ (q_isIn l D y H.size j_1 0 j_4) (cwS 3 hts g_q_isInput_0 rfl rfl rfl (by decide +kernel) ⟨Nat.le_of_ble_eq_true rfl, Nat.le_of_ble_eq_true rfl⟩) (x_preS hK (x_nilP D H) (x_nilD A)) rfl rfl hl.1 rfl (lv_room (Nat.le_of_ble_eq_true rfl)) dX12_isInput_12 ⟨Nat.le_of_ble_eq_true rfl, Nat.le_of_ble_eq_true rfl⟩) hP hD hS hA (fun r_5 u H locs hw hP hD hS => ?_)
  try dsimp only at hw
  exact x_zretW (v := r_5) (u := ()) hx hb hr hQ (x_01 (by omega)) (by omega) hP hD hK hS dX12_isInput_15 hlocks

def v_q_result : List Cond := .code yX12_result cX12_result 3 (some .long) :: ([.fieldLink RX12 127 "SlopeRunnerModel" "valueBelow" "[J", .fieldLink RX12 148 "SlopeRunnerModel" "resultAt" "[I", .fieldLink RX12 124 "SlopeRunnerModel" "valueAbove" "[J", .constantLong RX12 406 (-2000000000)] ++ ((wsV RX12 454 RX12 yX12_isResult v_q_isResult) ++ wsX120))
theorem g_q_result_0 : GoodIn v_q_result (wsV RX12 454 RX12 yX12_isResult v_q_isResult) := goodIn_sub (fun w h => List.mem_cons_of_mem _ (List.mem_append_right _ (List.mem_append_left _ h))) (by decide +kernel)
set_option maxHeartbeats 4000000 in
set_option maxRecDepth 100000 in
theorem q_result (l : Launch) (D : va_G) (y : Nat → ClassId) (sz : Nat) (ad : Nat → Nat) (zw : Nat → Nat → Int32) (σ : OS) (k b : Int32) (hB64 : bI (σ.2.2.1 64) 0 12) (hB65 : bI (σ.2.2.1 65) 0 1759) : Met l yX12_result v_q_result ({ frames := 2, cells := 0, slots := 0, locals := 46 } : Room) (va_Pc [.ref (ad 1), .int k, .int b] (xPre D (xT y) (mwd y ad zw σ) sz)) (va_Ql (fun (r : Int64) (_ : Unit) => True) (fun (u : Unit) => xB D (xT y) (va_A (mwd y ad zw σ) sz) (mwd y ad zw σ)) (va_A (mwd y ad zw σ) sz)) 0 0 (va_A (mwd y ad zw σ) sz) := by
  refine x_metl (cc := cX12_result) (maxL := 3) (by decide) rfl (Nat.le_of_ble_eq_true rfl) ?_
  intro p e s m below meth c A H locs Q hx hb hml hown hts hr hlocks hmn hA hP hK hD hS ls hl hQ
  have hl : lv_has ls 3 [(0, .ref (ad 1)), (1, .int k), (2, .int b)] := hl
  have kk_0 : (0 : Int32).toInt = 0 := rfl
  have fl127 := hts (.fieldLink RX12 127 "SlopeRunnerModel" "valueBelow" "[J") (List.mem_of_getElem? (i := 1) rfl)
  have inX12 : ∀ w ∈ wsX120, w ∈ v_q_result := (fun w h => List.mem_cons_of_mem _ (List.mem_append_right _ (List.mem_append_right _ h)))
  have fl148 := hts (.fieldLink RX12 148 "SlopeRunnerModel" "resultAt" "[I") (List.mem_of_getElem? (i := 2) rfl)
  have fl124 := hts (.fieldLink RX12 124 "SlopeRunnerModel" "valueAbove" "[J") (List.mem_of_getElem? (i := 3) rfl)
  refine lv_aload_n hx hb dX12_result_0 rfl (lv_at hl 0 rfl) ?_
  refine lv_iload_n hx hb dX12_result_1 rfl (lv_at hl 1 rfl) ?_
  refine x_calliW (va_runV (As := [.int k]) (rest := []) ⟨hx, hb, hml, hown, hts⟩ (q_isResult l D y H.size ad zw σ k hB64) (cwV 1 hts g_q_result_0 rfl rfl rfl (by decide +kernel) ⟨Nat.le_of_ble_eq_true rfl, Nat.le_of_ble_eq_true rfl⟩) (x_preV (q := (RX12, TX12, 85)) hK hP hD (ci := 11) (q0 := 0) rfl mwd_o0) rfl rfl hl.1 rfl (lv_room (Nat.le_of_ble_eq_true rfl)) dX12_result_2 ⟨Nat.le_of_ble_eq_true rfl, Nat.le_of_ble_eq_true rfl⟩) hP hD hS hA (fun r_1 u H locs hw hP hD hS => ?_)
  try dsimp only at hw
  have hP : va_P D vwCl (mwd y ad zw σ) H := hP
  have hD : va_D A (mwd y ad zw σ) := hD
  refine lv_if_ne (tgt := 14) hx hb dX12_result_5 (by decide) (fun c_2 => ?_) (fun c_2 => ?_)
  · have kc_2 : r_1.toInt ≠ 0 := by have h9 := c_2; simp only [ge_iff_le, gt_iff_lt, x_lt, x_le, x_eq, ne_eq, Int32.not_lt, Int32.not_le] at h9; simp only [Int32.reduceToInt] at h9; omega
    refine lv_iload_n hx hb dX12_result_14 rfl (lv_at hl 2 rfl) ?_
    refine lv_if_eq (tgt := 32) hx hb dX12_result_15 (by decide) (fun c_3 => ?_) (fun c_3 => ?_)
    · have kc_3 : b.toInt = 0 := by have h9 := c_3; simp only [ge_iff_le, gt_iff_lt, x_lt, x_le, x_eq, ne_eq, Int32.not_lt, Int32.not_le] at h9; simp only [Int32.reduceToInt] at h9; omega
      refine lv_aload_n hx hb dX12_result_32 rfl (lv_at hl 0 rfl) ?_
      refine va_get (D := D) (ci := 11) (v := .ref (ad 58)) (C := RX12) (T := TX12) (N := 85) hx hb hts inX12 hown hK hP 0 mwd_o0 rfl 58 (by decide) fl127 (fun _ h9 => h9) rfl dX12_result_33 ?_
      refine lv_aload_n hx hb dX12_result_36 rfl (lv_at hl 0 rfl) ?_
      refine va_get (D := D) (ci := 11) (v := .ref (ad 65)) (C := RX12) (T := TX12) (N := 85) hx hb hts inX12 hown hK hP 0 mwd_o0 rfl 65 (by decide) fl148 (fun _ h9 => h9) rfl dX12_result_37 ?_
      refine lv_iload_n hx hb dX12_result_40 rfl (lv_at hl 1 rfl) ?_
      refine va_iald hx hb hK hP 45 2 mwd_a45 rfl (x_in (by omega) (by omega)) dX12_result_41 ?_
      refine lv_topi (fun i_4 ei_4 => ?_)
      have ei_4 : i_4 = (σ.2.2.1 65) (Int32.toNatClampNeg k) := ei_4
      have bi_4 := b_at hB65 ei_4
      refine va_lald hx hb hK hP 38 3 mwd_a38 rfl (x_in (by omega) (by omega)) dX12_result_42 ?_
      refine lv_topl (fun j_5 ej_5 => ?_)
      have ej_5 : j_5 = (σ.2.2.2 58) (Int32.toNatClampNeg i_4) := ej_5
      exact x_lretW (v := j_5) (u := ()) hx hb hr hQ trivial hP hD hK hS dX12_result_43 hlocks
    · have kc_3 : b.toInt ≠ 0 := by have h9 := c_3; simp only [ge_iff_le, gt_iff_lt, x_lt, x_le, x_eq, ne_eq, Int32.not_lt, Int32.not_le] at h9; simp only [Int32.reduceToInt] at h9; omega
      refine lv_aload_n hx hb dX12_result_18 rfl (lv_at hl 0 rfl) ?_
      refine va_get (D := D) (ci := 11) (v := .ref (ad 57)) (C := RX12) (T := TX12) (N := 85) hx hb hts inX12 hown hK hP 0 mwd_o0 rfl 57 (by decide) fl124 (fun _ h9 => h9) rfl dX12_result_19 ?_
      refine lv_aload_n hx hb dX12_result_22 rfl (lv_at hl 0 rfl) ?_
      refine va_get (D := D) (ci := 11) (v := .ref (ad 65)) (C := RX12) (T := TX12) (N := 85) hx hb hts inX12 hown hK hP 0 mwd_o0 rfl 65 (by decide) fl148 (fun _ h9 => h9) rfl dX12_result_23 ?_
      refine lv_iload_n hx hb dX12_result_26 rfl (lv_at hl 1 rfl) ?_
      refine va_iald hx hb hK hP 45 2 mwd_a45 rfl (x_in (by omega) (by omega)) dX12_result_27 ?_
      refine lv_topi (fun i_6 ei_6 => ?_)
      have ei_6 : i_6 = (σ.2.2.1 65) (Int32.toNatClampNeg k) := ei_6
      have bi_6 := b_at hB65 ei_6
      refine va_lald hx hb hK hP 37 3 mwd_a37 rfl (x_in (by omega) (by omega)) dX12_result_28 ?_
      refine lv_topl (fun j_7 ej_7 => ?_)
      have ej_7 : j_7 = (σ.2.2.2 57) (Int32.toNatClampNeg i_6) := ej_7
      refine lv_goto (tgt := 43) hx hb dX12_result_29 (by decide) ?_
      exact x_lretW (v := j_7) (u := ()) hx hb hr hQ trivial hP hD hK hS dX12_result_43 hlocks
  · have kc_2 : r_1.toInt = 0 := by have h9 := c_2; simp only [ge_iff_le, gt_iff_lt, x_lt, x_le, x_eq, ne_eq, Int32.not_lt, Int32.not_le] at h9; simp only [Int32.reduceToInt] at h9; omega
    refine lv_ldc2 (v := (-2000000000)) hx hb hown (hts (.constantLong RX12 406 (-2000000000)) (List.mem_of_getElem? (i := 4) rfl)) dX12_result_8 ?_
    refine lv_goto (tgt := 43) hx hb dX12_result_11 (by decide) ?_
    exact x_lretW (v := (-2000000000)) (u := ()) hx hb hr hQ trivial hP hD hK hS dX12_result_43 hlocks

def v_q_near : List Cond := .code yX12_near cX12_near 2 (some .long) :: ([.fieldLink RX12 371 "SlopeRunnerModel" "hasRun" "Z", .fieldLink RX12 412 "SlopeRunnerModel" "hasNear" "Z", .fieldLink RX12 415 "SlopeRunnerModel" "nearBelow" "J", .fieldLink RX12 418 "SlopeRunnerModel" "nearAbove" "J", .constantLong RX12 406 (-2000000000)] ++ wsX120)
set_option maxHeartbeats 4000000 in
set_option maxRecDepth 100000 in
theorem q_near (l : Launch) (D : va_G) (y : Nat → ClassId) (sz : Nat) (ad : Nat → Nat) (zw : Nat → Nat → Int32) (σ : OS) (b : Int32) : Met l yX12_near v_q_near ({ frames := 0, cells := 0, slots := 0, locals := 0 } : Room) (va_Pc [.ref (ad 1), .int b] (xPre D (xT y) (mwd y ad zw σ) sz)) (va_Ql (fun (r : Int64) (_ : Unit) => True) (fun (u : Unit) => xB D (xT y) (va_A (mwd y ad zw σ) sz) (mwd y ad zw σ)) (va_A (mwd y ad zw σ) sz)) 0 0 (va_A (mwd y ad zw σ) sz) := by
  refine x_metl (cc := cX12_near) (maxL := 2) (by decide) rfl (Nat.le_of_ble_eq_true rfl) ?_
  intro p e s m below meth c A H locs Q hx hb hml hown hts hr hlocks hmn hA hP hK hD hS ls hl hQ
  have hl : lv_has ls 2 [(0, .ref (ad 1)), (1, .int b)] := hl
  have fl371 := hts (.fieldLink RX12 371 "SlopeRunnerModel" "hasRun" "Z") (List.mem_of_getElem? (i := 1) rfl)
  have inX12 : ∀ w ∈ wsX120, w ∈ v_q_near := (fun w h => List.mem_cons_of_mem _ (List.mem_append_right _ h))
  have kk_0 : (0 : Int32).toInt = 0 := rfl
  have fl412 := hts (.fieldLink RX12 412 "SlopeRunnerModel" "hasNear" "Z") (List.mem_of_getElem? (i := 2) rfl)
  have fl415 := hts (.fieldLink RX12 415 "SlopeRunnerModel" "nearBelow" "J") (List.mem_of_getElem? (i := 3) rfl)
  have fl418 := hts (.fieldLink RX12 418 "SlopeRunnerModel" "nearAbove" "J") (List.mem_of_getElem? (i := 4) rfl)
  refine lv_aload_n hx hb dX12_near_0 rfl (lv_at hl 0 rfl) ?_
  refine va_get (D := D) (ci := 11) (v := .int (σ.1 54)) (C := RX12) (T := TX12) (N := 85) hx hb hts inX12 hown hK hP 0 mwd_o0 rfl 54 (by decide) fl371 (fun _ h9 => h9) rfl dX12_near_1 ?_
  refine lv_if_eq (tgt := 14) hx hb dX12_near_4 (by decide) (fun c_1 => ?_) (fun c_1 => ?_)
  · have kc_1 : (σ.1 54).toInt = 0 := by have h9 := c_1; simp only [ge_iff_le, gt_iff_lt, x_lt, x_le, x_eq, ne_eq, Int32.not_lt, Int32.not_le] at h9; simp only [Int32.reduceToInt] at h9; omega
    refine lv_ldc2 (v := (-2000000000)) hx hb hown (hts (.constantLong RX12 406 (-2000000000)) (List.mem_of_getElem? (i := 5) rfl)) dX12_near_14 ?_
    refine lv_goto (tgt := 35) hx hb dX12_near_17 (by decide) ?_
    exact x_lretW (v := (-2000000000)) (u := ()) hx hb hr hQ trivial hP hD hK hS dX12_near_35 hlocks
  · have kc_1 : (σ.1 54).toInt ≠ 0 := by have h9 := c_1; simp only [ge_iff_le, gt_iff_lt, x_lt, x_le, x_eq, ne_eq, Int32.not_lt, Int32.not_le] at h9; simp only [Int32.reduceToInt] at h9; omega
    refine lv_aload_n hx hb dX12_near_7 rfl (lv_at hl 0 rfl) ?_
    refine va_get (D := D) (ci := 11) (v := .int (σ.1 68)) (C := RX12) (T := TX12) (N := 85) hx hb hts inX12 hown hK hP 0 mwd_o0 rfl 68 (by decide) fl412 (fun _ h9 => h9) rfl dX12_near_8 ?_
    refine lv_if_ne (tgt := 20) hx hb dX12_near_11 (by decide) (fun c_2 => ?_) (fun c_2 => ?_)
    · have kc_2 : (σ.1 68).toInt ≠ 0 := by have h9 := c_2; simp only [ge_iff_le, gt_iff_lt, x_lt, x_le, x_eq, ne_eq, Int32.not_lt, Int32.not_le] at h9; simp only [Int32.reduceToInt] at h9; omega
      refine lv_iload_n hx hb dX12_near_20 rfl (lv_at hl 1 rfl) ?_
      refine lv_if_eq (tgt := 31) hx hb dX12_near_21 (by decide) (fun c_3 => ?_) (fun c_3 => ?_)
      · have kc_3 : b.toInt = 0 := by have h9 := c_3; simp only [ge_iff_le, gt_iff_lt, x_lt, x_le, x_eq, ne_eq, Int32.not_lt, Int32.not_le] at h9; simp only [Int32.reduceToInt] at h9; omega
        refine lv_aload_n hx hb dX12_near_31 rfl (lv_at hl 0 rfl) ?_
        refine va_get (D := D) (ci := 11) (v := .long (σ.2.1 70)) (C := RX12) (T := TX12) (N := 85) hx hb hts inX12 hown hK hP 0 mwd_o0 rfl 70 (by decide) fl415 (fun _ h9 => h9) rfl dX12_near_32 ?_
        exact x_lretW (v := (σ.2.1 70)) (u := ()) hx hb hr hQ trivial hP hD hK hS dX12_near_35 hlocks
      · have kc_3 : b.toInt ≠ 0 := by have h9 := c_3; simp only [ge_iff_le, gt_iff_lt, x_lt, x_le, x_eq, ne_eq, Int32.not_lt, Int32.not_le] at h9; simp only [Int32.reduceToInt] at h9; omega
        refine lv_aload_n hx hb dX12_near_24 rfl (lv_at hl 0 rfl) ?_
        refine va_get (D := D) (ci := 11) (v := .long (σ.2.1 69)) (C := RX12) (T := TX12) (N := 85) hx hb hts inX12 hown hK hP 0 mwd_o0 rfl 69 (by decide) fl418 (fun _ h9 => h9) rfl dX12_near_25 ?_
        refine lv_goto (tgt := 35) hx hb dX12_near_28 (by decide) ?_
        exact x_lretW (v := (σ.2.1 69)) (u := ()) hx hb hr hQ trivial hP hD hK hS dX12_near_35 hlocks
    · have kc_2 : (σ.1 68).toInt = 0 := by have h9 := c_2; simp only [ge_iff_le, gt_iff_lt, x_lt, x_le, x_eq, ne_eq, Int32.not_lt, Int32.not_le] at h9; simp only [Int32.reduceToInt] at h9; omega
      refine lv_ldc2 (v := (-2000000000)) hx hb hown (hts (.constantLong RX12 406 (-2000000000)) (List.mem_of_getElem? (i := 5) rfl)) dX12_near_14 ?_
      refine lv_goto (tgt := 35) hx hb dX12_near_17 (by decide) ?_
      exact x_lretW (v := (-2000000000)) (u := ()) hx hb hr hQ trivial hP hD hK hS dX12_near_35 hlocks

def v_q_ran : List Cond := .code yX12_ran cX12_ran 2 (some .int) :: ([.fieldLink RX12 371 "SlopeRunnerModel" "hasRun" "Z", .fieldLink RX12 151 "SlopeRunnerModel" "edges" "[I", .fieldLink RX12 145 "SlopeRunnerModel" "results" "[I", .fieldLink RX12 139 "SlopeRunnerModel" "laid" "[I", .fieldLink RX12 142 "SlopeRunnerModel" "steps" "[I"] ++ wsX120)
set_option maxHeartbeats 4000000 in
set_option maxRecDepth 100000 in
theorem q_ran (l : Launch) (D : va_G) (y : Nat → ClassId) (sz : Nat) (ad : Nat → Nat) (zw : Nat → Nat → Int32) (σ : OS) (k : Int32) : Met l yX12_ran v_q_ran ({ frames := 0, cells := 0, slots := 0, locals := 0 } : Room) (va_Pc [.ref (ad 1), .int k] (xPre D (xT y) (mwd y ad zw σ) sz)) (va_Qi (fun (r : Int32) (_ : Unit) => True) (fun (u : Unit) => xB D (xT y) (va_A (mwd y ad zw σ) sz) (mwd y ad zw σ)) (va_A (mwd y ad zw σ) sz)) 0 0 (va_A (mwd y ad zw σ) sz) := by
  refine x_meti (cc := cX12_ran) (maxL := 2) (by decide) rfl (Nat.le_of_ble_eq_true rfl) ?_
  intro p e s m below meth c A H locs Q hx hb hml hown hts hr hlocks hmn hA hP hK hD hS ls hl hQ
  have hl : lv_has ls 2 [(0, .ref (ad 1)), (1, .int k)] := hl
  have fl371 := hts (.fieldLink RX12 371 "SlopeRunnerModel" "hasRun" "Z") (List.mem_of_getElem? (i := 1) rfl)
  have inX12 : ∀ w ∈ wsX120, w ∈ v_q_ran := (fun w h => List.mem_cons_of_mem _ (List.mem_append_right _ h))
  have kk_0 : (0 : Int32).toInt = 0 := rfl
  have kk_1 : (1 : Int32).toInt = 1 := rfl
  have kk_2 : (2 : Int32).toInt = 2 := rfl
  have kk_3 : (3 : Int32).toInt = 3 := rfl
  have kk_m1 : ((-1) : Int32).toInt = -1 := rfl
  have fl151 := hts (.fieldLink RX12 151 "SlopeRunnerModel" "edges" "[I") (List.mem_of_getElem? (i := 2) rfl)
  have fl145 := hts (.fieldLink RX12 145 "SlopeRunnerModel" "results" "[I") (List.mem_of_getElem? (i := 3) rfl)
  have fl139 := hts (.fieldLink RX12 139 "SlopeRunnerModel" "laid" "[I") (List.mem_of_getElem? (i := 4) rfl)
  have fl142 := hts (.fieldLink RX12 142 "SlopeRunnerModel" "steps" "[I") (List.mem_of_getElem? (i := 5) rfl)
  refine lv_aload_n hx hb dX12_ran_0 rfl (lv_at hl 0 rfl) ?_
  refine va_get (D := D) (ci := 11) (v := .int (σ.1 54)) (C := RX12) (T := TX12) (N := 85) hx hb hts inX12 hown hK hP 0 mwd_o0 rfl 54 (by decide) fl371 (fun _ h9 => h9) rfl dX12_ran_1 ?_
  refine lv_if_ne (tgt := 9) hx hb dX12_ran_4 (by decide) (fun c_1 => ?_) (fun c_1 => ?_)
  · have kc_1 : (σ.1 54).toInt ≠ 0 := by have h9 := c_1; simp only [ge_iff_le, gt_iff_lt, x_lt, x_le, x_eq, ne_eq, Int32.not_lt, Int32.not_le] at h9; simp only [Int32.reduceToInt] at h9; omega
    refine lv_iload_n hx hb dX12_ran_9 rfl (lv_at hl 1 rfl) ?_
    refine lv_if_ne (tgt := 22) hx hb dX12_ran_10 (by decide) (fun c_2 => ?_) (fun c_2 => ?_)
    · have kc_2 : k.toInt ≠ 0 := by have h9 := c_2; simp only [ge_iff_le, gt_iff_lt, x_lt, x_le, x_eq, ne_eq, Int32.not_lt, Int32.not_le] at h9; simp only [Int32.reduceToInt] at h9; omega
      refine lv_iload_n hx hb dX12_ran_22 rfl (lv_at hl 1 rfl) ?_
      refine lv_iconst (v := 1) hx hb dX12_ran_23 (by decide) ?_
      refine lv_icmp_ne (tgt := 36) hx hb dX12_ran_24 (by decide) (fun c_3 => ?_) (fun c_3 => ?_)
      · have kc_3 : k.toInt ≠ 1 := by have h9 := c_3; simp only [ge_iff_le, gt_iff_lt, x_lt, x_le, x_eq, ne_eq, Int32.not_lt, Int32.not_le] at h9; simp only [Int32.reduceToInt] at h9; omega
        refine lv_iload_n hx hb dX12_ran_36 rfl (lv_at hl 1 rfl) ?_
        refine lv_iconst (v := 2) hx hb dX12_ran_37 (by decide) ?_
        refine lv_icmp_ne (tgt := 50) hx hb dX12_ran_38 (by decide) (fun c_4 => ?_) (fun c_4 => ?_)
        · have kc_4 : k.toInt ≠ 2 := by have h9 := c_4; simp only [ge_iff_le, gt_iff_lt, x_lt, x_le, x_eq, ne_eq, Int32.not_lt, Int32.not_le] at h9; simp only [Int32.reduceToInt] at h9; omega
          refine lv_iload_n hx hb dX12_ran_50 rfl (lv_at hl 1 rfl) ?_
          refine lv_iconst (v := 3) hx hb dX12_ran_51 (by decide) ?_
          refine lv_icmp_ne (tgt := 64) hx hb dX12_ran_52 (by decide) (fun c_5 => ?_) (fun c_5 => ?_)
          · have kc_5 : k.toInt ≠ 3 := by have h9 := c_5; simp only [ge_iff_le, gt_iff_lt, x_lt, x_le, x_eq, ne_eq, Int32.not_lt, Int32.not_le] at h9; simp only [Int32.reduceToInt] at h9; omega
            refine lv_iconst (v := (-1)) hx hb dX12_ran_64 (by decide) ?_
            exact x_iretW (v := (-1)) (u := ()) hx hb hr hQ trivial hP hD hK hS dX12_ran_65 hlocks
          · have kc_5 : k.toInt = 3 := by have h9 := c_5; simp only [ge_iff_le, gt_iff_lt, x_lt, x_le, x_eq, ne_eq, Int32.not_lt, Int32.not_le] at h9; simp only [Int32.reduceToInt] at h9; omega
            refine lv_aload_n hx hb dX12_ran_55 rfl (lv_at hl 0 rfl) ?_
            refine va_get (D := D) (ci := 11) (v := .ref (ad 66)) (C := RX12) (T := TX12) (N := 85) hx hb hts inX12 hown hK hP 0 mwd_o0 rfl 66 (by decide) fl151 (fun _ h9 => h9) rfl dX12_ran_56 ?_
            refine lv_iconst (v := 0) hx hb dX12_ran_59 (by decide) ?_
            refine va_iald hx hb hK hP 46 2 mwd_a46 rfl (x_in (by decide) (by decide)) dX12_ran_60 ?_
            refine lv_topi (fun i_6 ei_6 => ?_)
            have ei_6 : i_6 = (σ.2.2.1 66) (Int32.toNatClampNeg 0) := ei_6
            refine lv_goto (tgt := 65) hx hb dX12_ran_61 (by decide) ?_
            exact x_iretW (v := i_6) (u := ()) hx hb hr hQ trivial hP hD hK hS dX12_ran_65 hlocks
        · have kc_4 : k.toInt = 2 := by have h9 := c_4; simp only [ge_iff_le, gt_iff_lt, x_lt, x_le, x_eq, ne_eq, Int32.not_lt, Int32.not_le] at h9; simp only [Int32.reduceToInt] at h9; omega
          refine lv_aload_n hx hb dX12_ran_41 rfl (lv_at hl 0 rfl) ?_
          refine va_get (D := D) (ci := 11) (v := .ref (ad 64)) (C := RX12) (T := TX12) (N := 85) hx hb hts inX12 hown hK hP 0 mwd_o0 rfl 64 (by decide) fl145 (fun _ h9 => h9) rfl dX12_ran_42 ?_
          refine lv_iconst (v := 0) hx hb dX12_ran_45 (by decide) ?_
          refine va_iald hx hb hK hP 44 2 mwd_a44 rfl (x_in (by decide) (by decide)) dX12_ran_46 ?_
          refine lv_topi (fun i_7 ei_7 => ?_)
          have ei_7 : i_7 = (σ.2.2.1 64) (Int32.toNatClampNeg 0) := ei_7
          refine lv_goto (tgt := 65) hx hb dX12_ran_47 (by decide) ?_
          exact x_iretW (v := i_7) (u := ()) hx hb hr hQ trivial hP hD hK hS dX12_ran_65 hlocks
      · have kc_3 : k.toInt = 1 := by have h9 := c_3; simp only [ge_iff_le, gt_iff_lt, x_lt, x_le, x_eq, ne_eq, Int32.not_lt, Int32.not_le] at h9; simp only [Int32.reduceToInt] at h9; omega
        refine lv_aload_n hx hb dX12_ran_27 rfl (lv_at hl 0 rfl) ?_
        refine va_get (D := D) (ci := 11) (v := .ref (ad 62)) (C := RX12) (T := TX12) (N := 85) hx hb hts inX12 hown hK hP 0 mwd_o0 rfl 62 (by decide) fl139 (fun _ h9 => h9) rfl dX12_ran_28 ?_
        refine lv_iconst (v := 0) hx hb dX12_ran_31 (by decide) ?_
        refine va_iald hx hb hK hP 42 2 mwd_a42 rfl (x_in (by decide) (by decide)) dX12_ran_32 ?_
        refine lv_topi (fun i_8 ei_8 => ?_)
        have ei_8 : i_8 = (σ.2.2.1 62) (Int32.toNatClampNeg 0) := ei_8
        refine lv_goto (tgt := 65) hx hb dX12_ran_33 (by decide) ?_
        exact x_iretW (v := i_8) (u := ()) hx hb hr hQ trivial hP hD hK hS dX12_ran_65 hlocks
    · have kc_2 : k.toInt = 0 := by have h9 := c_2; simp only [ge_iff_le, gt_iff_lt, x_lt, x_le, x_eq, ne_eq, Int32.not_lt, Int32.not_le] at h9; simp only [Int32.reduceToInt] at h9; omega
      refine lv_aload_n hx hb dX12_ran_13 rfl (lv_at hl 0 rfl) ?_
      refine va_get (D := D) (ci := 11) (v := .ref (ad 63)) (C := RX12) (T := TX12) (N := 85) hx hb hts inX12 hown hK hP 0 mwd_o0 rfl 63 (by decide) fl142 (fun _ h9 => h9) rfl dX12_ran_14 ?_
      refine lv_iconst (v := 0) hx hb dX12_ran_17 (by decide) ?_
      refine va_iald hx hb hK hP 43 2 mwd_a43 rfl (x_in (by decide) (by decide)) dX12_ran_18 ?_
      refine lv_topi (fun i_9 ei_9 => ?_)
      have ei_9 : i_9 = (σ.2.2.1 63) (Int32.toNatClampNeg 0) := ei_9
      refine lv_goto (tgt := 65) hx hb dX12_ran_19 (by decide) ?_
      exact x_iretW (v := i_9) (u := ()) hx hb hr hQ trivial hP hD hK hS dX12_ran_65 hlocks
  · have kc_1 : (σ.1 54).toInt = 0 := by have h9 := c_1; simp only [ge_iff_le, gt_iff_lt, x_lt, x_le, x_eq, ne_eq, Int32.not_lt, Int32.not_le] at h9; simp only [Int32.reduceToInt] at h9; omega
    refine lv_iconst (v := (-1)) hx hb dX12_ran_7 (by decide) ?_
    exact x_iretW (v := (-1)) (u := ()) hx hb hr hQ trivial hP hD hK hS dX12_ran_8 hlocks

def v_q_fault : List Cond := .code yX12_fault cX12_fault 2 (some .int) :: ([.fieldLink RX12 13 "SlopeRunnerModel" "faultPlace" "I", .fieldLink RX12 362 "SlopeRunnerModel" "fault" "I"] ++ wsX120)
set_option maxHeartbeats 4000000 in
set_option maxRecDepth 100000 in
theorem q_fault (l : Launch) (D : va_G) (y : Nat → ClassId) (sz : Nat) (ad : Nat → Nat) (zw : Nat → Nat → Int32) (σ : OS) (k : Int32) : Met l yX12_fault v_q_fault ({ frames := 0, cells := 0, slots := 0, locals := 0 } : Room) (va_Pc [.ref (ad 1), .int k] (xPre D (xT y) (mwd y ad zw σ) sz)) (va_Qi (fun (r : Int32) (_ : Unit) => True) (fun (u : Unit) => xB D (xT y) (va_A (mwd y ad zw σ) sz) (mwd y ad zw σ)) (va_A (mwd y ad zw σ) sz)) 0 0 (va_A (mwd y ad zw σ) sz) := by
  refine x_meti (cc := cX12_fault) (maxL := 2) (by decide) rfl (Nat.le_of_ble_eq_true rfl) ?_
  intro p e s m below meth c A H locs Q hx hb hml hown hts hr hlocks hmn hA hP hK hD hS ls hl hQ
  have hl : lv_has ls 2 [(0, .ref (ad 1)), (1, .int k)] := hl
  have kk_0 : (0 : Int32).toInt = 0 := rfl
  have kk_1 : (1 : Int32).toInt = 1 := rfl
  have kk_m1 : ((-1) : Int32).toInt = -1 := rfl
  have fl13 := hts (.fieldLink RX12 13 "SlopeRunnerModel" "faultPlace" "I") (List.mem_of_getElem? (i := 1) rfl)
  have inX12 : ∀ w ∈ wsX120, w ∈ v_q_fault := (fun w h => List.mem_cons_of_mem _ (List.mem_append_right _ h))
  have fl362 := hts (.fieldLink RX12 362 "SlopeRunnerModel" "fault" "I") (List.mem_of_getElem? (i := 2) rfl)
  refine lv_iload_n hx hb dX12_fault_0 rfl (lv_at hl 1 rfl) ?_
  refine lv_if_ne (tgt := 11) hx hb dX12_fault_1 (by decide) (fun c_1 => ?_) (fun c_1 => ?_)
  · have kc_1 : k.toInt ≠ 0 := by have h9 := c_1; simp only [ge_iff_le, gt_iff_lt, x_lt, x_le, x_eq, ne_eq, Int32.not_lt, Int32.not_le] at h9; simp only [Int32.reduceToInt] at h9; omega
    refine lv_iload_n hx hb dX12_fault_11 rfl (lv_at hl 1 rfl) ?_
    refine lv_iconst (v := 1) hx hb dX12_fault_12 (by decide) ?_
    refine lv_icmp_ne (tgt := 23) hx hb dX12_fault_13 (by decide) (fun c_2 => ?_) (fun c_2 => ?_)
    · have kc_2 : k.toInt ≠ 1 := by have h9 := c_2; simp only [ge_iff_le, gt_iff_lt, x_lt, x_le, x_eq, ne_eq, Int32.not_lt, Int32.not_le] at h9; simp only [Int32.reduceToInt] at h9; omega
      refine lv_iconst (v := (-1)) hx hb dX12_fault_23 (by decide) ?_
      exact x_iretW (v := (-1)) (u := ()) hx hb hr hQ trivial hP hD hK hS dX12_fault_24 hlocks
    · have kc_2 : k.toInt = 1 := by have h9 := c_2; simp only [ge_iff_le, gt_iff_lt, x_lt, x_le, x_eq, ne_eq, Int32.not_lt, Int32.not_le] at h9; simp only [Int32.reduceToInt] at h9; omega
      refine lv_aload_n hx hb dX12_fault_16 rfl (lv_at hl 0 rfl) ?_
      refine va_get (D := D) (ci := 11) (v := .int (σ.1 8)) (C := RX12) (T := TX12) (N := 85) hx hb hts inX12 hown hK hP 0 mwd_o0 rfl 8 (by decide) fl13 (fun _ h9 => h9) rfl dX12_fault_17 ?_
      refine lv_goto (tgt := 24) hx hb dX12_fault_20 (by decide) ?_
      exact x_iretW (v := (σ.1 8)) (u := ()) hx hb hr hQ trivial hP hD hK hS dX12_fault_24 hlocks
  · have kc_1 : k.toInt = 0 := by have h9 := c_1; simp only [ge_iff_le, gt_iff_lt, x_lt, x_le, x_eq, ne_eq, Int32.not_lt, Int32.not_le] at h9; simp only [Int32.reduceToInt] at h9; omega
    refine lv_aload_n hx hb dX12_fault_4 rfl (lv_at hl 0 rfl) ?_
    refine va_get (D := D) (ci := 11) (v := .int (σ.1 7)) (C := RX12) (T := TX12) (N := 85) hx hb hts inX12 hown hK hP 0 mwd_o0 rfl 7 (by decide) fl362 (fun _ h9 => h9) rfl dX12_fault_5 ?_
    refine lv_goto (tgt := 24) hx hb dX12_fault_8 (by decide) ?_
    exact x_iretW (v := (σ.1 7)) (u := ()) hx hb hr hQ trivial hP hD hK hS dX12_fault_24 hlocks

def v_q_has : List Cond := .code yX12_has cX12_has 2 (some .int) :: ([.fieldLink RX12 60 "SlopeRunnerModel" "has" "[I", .constantLong RX12 378 4] ++ ((wsS RX12 231 yX12_isIn v_q_isIn) ++ wsX120))
theorem g_q_has_0 : GoodIn v_q_has (wsS RX12 231 yX12_isIn v_q_isIn) := goodIn_sub (fun w h => List.mem_cons_of_mem _ (List.mem_append_right _ (List.mem_append_left _ h))) (by decide +kernel)
set_option maxHeartbeats 4000000 in
set_option maxRecDepth 100000 in
theorem q_has (l : Launch) (D : va_G) (y : Nat → ClassId) (sz : Nat) (ad : Nat → Nat) (zw : Nat → Nat → Int32) (σ : OS) (k : Int32) : Met l yX12_has v_q_has ({ frames := 1, cells := 0, slots := 0, locals := 25 } : Room) (va_Pc [.ref (ad 1), .int k] (xPre D (xT y) (mwd y ad zw σ) sz)) (va_Qi (fun (r : Int32) (_ : Unit) => True) (fun (u : Unit) => xB D (xT y) (va_A (mwd y ad zw σ) sz) (mwd y ad zw σ)) (va_A (mwd y ad zw σ) sz)) 0 0 (va_A (mwd y ad zw σ) sz) := by
  refine x_meti (cc := cX12_has) (maxL := 2) (by decide) rfl (Nat.le_of_ble_eq_true rfl) ?_
  intro p e s m below meth c A H locs Q hx hb hml hown hts hr hlocks hmn hA hP hK hD hS ls hl hQ
  have hl : lv_has ls 2 [(0, .ref (ad 1)), (1, .int k)] := hl
  have kl_0 : (0 : Int64).toInt = 0 := rfl
  have kl_4 : (4 : Int64).toInt = 4 := rfl
  have kk_0 : (0 : Int32).toInt = 0 := rfl
  have kk_m1 : ((-1) : Int32).toInt = -1 := rfl
  have fl60 := hts (.fieldLink RX12 60 "SlopeRunnerModel" "has" "[I") (List.mem_of_getElem? (i := 1) rfl)
  have inX12 : ∀ w ∈ wsX120, w ∈ v_q_has := (fun w h => List.mem_cons_of_mem _ (List.mem_append_right _ (List.mem_append_right _ h)))
  have kk_5 : (5 : Int32).toInt = 5 := rfl
  refine lv_iload_n hx hb dX12_has_0 rfl (lv_at hl 1 rfl) ?_
  refine lv_i2l hx hb dX12_has_1 rfl ?_
  refine lv_topl (fun j_1 ej_1 => ?_)
  have vj_1 : j_1.toInt = k.toInt := by rw [ej_1]; exact Int32.toInt_toInt64 _
  refine lv_lconst (v := 0) hx hb dX12_has_2 (by decide) ?_
  refine lv_ldc2 (v := 4) hx hb hown (hts (.constantLong RX12 378 4) (List.mem_of_getElem? (i := 2) rfl)) dX12_has_3 ?_
  refine x_calliN (va_runS (As := [.long j_1, .long 0, .long 4]) (rest := []) ⟨hx, hb, hml, hown, hts⟩ (q_isIn l D y H.size j_1 0 4) (cwS 3 hts g_q_has_0 rfl rfl rfl (by decide +kernel) ⟨Nat.le_of_ble_eq_true rfl, Nat.le_of_ble_eq_true rfl⟩) (x_preS hK (x_nilP D H) (x_nilD A)) rfl rfl hl.1 rfl (lv_room (Nat.le_of_ble_eq_true rfl)) dX12_has_6 ⟨Nat.le_of_ble_eq_true rfl, Nat.le_of_ble_eq_true rfl⟩) hP hD hS hA (fun r_2 u H locs hw hP hD hS => ?_)
  try dsimp only at hw
  refine lv_if_eq (tgt := 23) hx hb dX12_has_9 (by decide) (fun c_3 => ?_) (fun c_3 => ?_)
  · have kc_3 : r_2.toInt = 0 := by have h9 := c_3; simp only [ge_iff_le, gt_iff_lt, x_lt, x_le, x_eq, ne_eq, Int32.not_lt, Int32.not_le] at h9; simp only [Int32.reduceToInt] at h9; omega
    refine lv_iconst (v := (-1)) hx hb dX12_has_23 (by decide) ?_
    exact x_iretW (v := (-1)) (u := ()) hx hb hr hQ trivial hP hD hK hS dX12_has_24 hlocks
  · have kc_3 : r_2.toInt ≠ 0 := by have h9 := c_3; simp only [ge_iff_le, gt_iff_lt, x_lt, x_le, x_eq, ne_eq, Int32.not_lt, Int32.not_le] at h9; simp only [Int32.reduceToInt] at h9; omega
    refine lv_aload_n hx hb dX12_has_12 rfl (lv_at hl 0 rfl) ?_
    refine va_get (D := D) (ci := 11) (v := .ref (ad 24)) (C := RX12) (T := TX12) (N := 85) hx hb hts inX12 hown hK hP 0 mwd_o0 rfl 24 (by decide) fl60 (fun _ h9 => h9) rfl dX12_has_13 ?_
    refine lv_iconst (v := 5) hx hb dX12_has_16 (by decide) ?_
    refine lv_iload_n hx hb dX12_has_17 rfl (lv_at hl 1 rfl) ?_
    refine lv_iadd hx hb dX12_has_18 ?_
    refine lv_topi (fun i_4 ei_4 => ?_)
    have vi_4 : i_4.toInt = 5 + k.toInt := by have h9 := x_add ei_4 (by omega) (by omega); omega
    refine va_iald hx hb hK hP 16 2 mwd_a16 rfl (x_in (by omega) (by omega)) dX12_has_19 ?_
    refine lv_topi (fun i_5 ei_5 => ?_)
    have ei_5 : i_5 = (σ.2.2.1 24) (Int32.toNatClampNeg i_4) := ei_5
    refine lv_goto (tgt := 24) hx hb dX12_has_20 (by decide) ?_
    exact x_iretW (v := i_5) (u := ()) hx hb hr hQ trivial hP hD hK hS dX12_has_24 hlocks

def v_q_input : List Cond := .code yX12_input cX12_input 3 (some .long) :: ([.fieldLink RX12 60 "SlopeRunnerModel" "has" "[I", .fieldLink RX12 100 "SlopeRunnerModel" "putBelow" "[J", .fieldLink RX12 97 "SlopeRunnerModel" "putAbove" "[J", .constantLong RX12 406 (-2000000000)] ++ ((wsS RX12 231 yX12_isIn v_q_isIn) ++ wsX120))
theorem g_q_input_0 : GoodIn v_q_input (wsS RX12 231 yX12_isIn v_q_isIn) := goodIn_sub (fun w h => List.mem_cons_of_mem _ (List.mem_append_right _ (List.mem_append_left _ h))) (by decide +kernel)
set_option maxHeartbeats 4000000 in
set_option maxRecDepth 100000 in
theorem q_input (l : Launch) (D : va_G) (y : Nat → ClassId) (sz : Nat) (ad : Nat → Nat) (zw : Nat → Nat → Int32) (σ : OS) (k b : Int32) (h5 : 0 ≤ (σ.2.2.1 24 5).toInt ∧ (σ.2.2.1 24 5).toInt ≤ 8) : Met l yX12_input v_q_input ({ frames := 1, cells := 0, slots := 0, locals := 25 } : Room) (va_Pc [.ref (ad 1), .int k, .int b] (xPre D (xT y) (mwd y ad zw σ) sz)) (va_Ql (fun (r : Int64) (_ : Unit) => True) (fun (u : Unit) => xB D (xT y) (va_A (mwd y ad zw σ) sz) (mwd y ad zw σ)) (va_A (mwd y ad zw σ) sz)) 0 0 (va_A (mwd y ad zw σ) sz) := by
  refine x_metl (cc := cX12_input) (maxL := 3) (by decide) rfl (Nat.le_of_ble_eq_true rfl) ?_
  intro p e s m below meth c A H locs Q hx hb hml hown hts hr hlocks hmn hA hP hK hD hS ls hl hQ
  have hl : lv_has ls 3 [(0, .ref (ad 1)), (1, .int k), (2, .int b)] := hl
  have fl60 := hts (.fieldLink RX12 60 "SlopeRunnerModel" "has" "[I") (List.mem_of_getElem? (i := 1) rfl)
  have inX12 : ∀ w ∈ wsX120, w ∈ v_q_input := (fun w h => List.mem_cons_of_mem _ (List.mem_append_right _ (List.mem_append_right _ h)))
  have kk_1 : (1 : Int32).toInt = 1 := rfl
  have kl_0 : (0 : Int64).toInt = 0 := rfl
  have kk_0 : (0 : Int32).toInt = 0 := rfl
  have fl100 := hts (.fieldLink RX12 100 "SlopeRunnerModel" "putBelow" "[J") (List.mem_of_getElem? (i := 2) rfl)
  have fl97 := hts (.fieldLink RX12 97 "SlopeRunnerModel" "putAbove" "[J") (List.mem_of_getElem? (i := 3) rfl)
  refine lv_iload_n hx hb dX12_input_0 rfl (lv_at hl 1 rfl) ?_
  refine lv_i2l hx hb dX12_input_1 rfl ?_
  refine lv_topl (fun j_1 ej_1 => ?_)
  have vj_1 : j_1.toInt = k.toInt := by rw [ej_1]; exact Int32.toInt_toInt64 _
  refine lv_lconst (v := 0) hx hb dX12_input_2 (by decide) ?_
  refine lv_aload_n hx hb dX12_input_3 rfl (lv_at hl 0 rfl) ?_
  refine va_get (D := D) (ci := 11) (v := .ref (ad 24)) (C := RX12) (T := TX12) (N := 85) hx hb hts inX12 hown hK hP 0 mwd_o0 rfl 24 (by decide) fl60 (fun _ h9 => h9) rfl dX12_input_4 ?_
  refine lv_iconst (v := 5) hx hb dX12_input_7 (by decide) ?_
  refine va_iald hx hb hK hP 16 2 mwd_a16 rfl (x_in (by decide) (by decide)) dX12_input_8 ?_
  refine lv_topi (fun i_2 ei_2 => ?_)
  have ei_2 : i_2 = (σ.2.2.1 24) (Int32.toNatClampNeg 5) := ei_2
  have gi_2 : 0 ≤ i_2.toInt ∧ i_2.toInt ≤ 8 := by rw [show i_2 = σ.2.2.1 24 5 from ei_2]; exact h5
  refine lv_iconst (v := 1) hx hb dX12_input_9 (by decide) ?_
  refine lv_isub hx hb dX12_input_10 ?_
  refine lv_topi (fun i_3 ei_3 => ?_)
  have vi_3 : i_3.toInt = i_2.toInt - 1 := by have h9 := x_sub ei_3 (by omega) (by omega); omega
  refine lv_i2l hx hb dX12_input_11 rfl ?_
  refine lv_topl (fun j_4 ej_4 => ?_)
  have vj_4 : j_4.toInt = i_3.toInt := by rw [ej_4]; exact Int32.toInt_toInt64 _
  refine x_calliN (va_runS (As := [.long j_1, .long 0, .long j_4]) (rest := []) ⟨hx, hb, hml, hown, hts⟩ (q_isIn l D y H.size j_1 0 j_4) (cwS 3 hts g_q_input_0 rfl rfl rfl (by decide +kernel) ⟨Nat.le_of_ble_eq_true rfl, Nat.le_of_ble_eq_true rfl⟩) (x_preS hK (x_nilP D H) (x_nilD A)) rfl rfl hl.1 rfl (lv_room (Nat.le_of_ble_eq_true rfl)) dX12_input_12 ⟨Nat.le_of_ble_eq_true rfl, Nat.le_of_ble_eq_true rfl⟩) hP hD hS hA (fun r_5 u H locs hw hP hD hS => ?_)
  try dsimp only at hw
  refine lv_if_ne (tgt := 24) hx hb dX12_input_15 (by decide) (fun c_6 => ?_) (fun c_6 => ?_)
  · have kc_6 : r_5.toInt ≠ 0 := by have h9 := c_6; simp only [ge_iff_le, gt_iff_lt, x_lt, x_le, x_eq, ne_eq, Int32.not_lt, Int32.not_le] at h9; simp only [Int32.reduceToInt] at h9; omega
    refine lv_iload_n hx hb dX12_input_24 rfl (lv_at hl 2 rfl) ?_
    refine lv_if_eq (tgt := 37) hx hb dX12_input_25 (by decide) (fun c_7 => ?_) (fun c_7 => ?_)
    · have kc_7 : b.toInt = 0 := by have h9 := c_7; simp only [ge_iff_le, gt_iff_lt, x_lt, x_le, x_eq, ne_eq, Int32.not_lt, Int32.not_le] at h9; simp only [Int32.reduceToInt] at h9; omega
      refine lv_aload_n hx hb dX12_input_37 rfl (lv_at hl 0 rfl) ?_
      refine va_get (D := D) (ci := 11) (v := .ref (ad 46)) (C := RX12) (T := TX12) (N := 85) hx hb hts inX12 hown hK hP 0 mwd_o0 rfl 46 (by decide) fl100 (fun _ h9 => h9) rfl dX12_input_38 ?_
      refine lv_iload_n hx hb dX12_input_41 rfl (lv_at hl 1 rfl) ?_
      refine va_lald hx hb hK hP 29 3 mwd_a29 rfl (x_in (by omega) (by omega)) dX12_input_42 ?_
      refine lv_topl (fun j_8 ej_8 => ?_)
      have ej_8 : j_8 = (σ.2.2.2 46) (Int32.toNatClampNeg k) := ej_8
      exact x_lretW (v := j_8) (u := ()) hx hb hr hQ trivial hP hD hK hS dX12_input_43 hlocks
    · have kc_7 : b.toInt ≠ 0 := by have h9 := c_7; simp only [ge_iff_le, gt_iff_lt, x_lt, x_le, x_eq, ne_eq, Int32.not_lt, Int32.not_le] at h9; simp only [Int32.reduceToInt] at h9; omega
      refine lv_aload_n hx hb dX12_input_28 rfl (lv_at hl 0 rfl) ?_
      refine va_get (D := D) (ci := 11) (v := .ref (ad 45)) (C := RX12) (T := TX12) (N := 85) hx hb hts inX12 hown hK hP 0 mwd_o0 rfl 45 (by decide) fl97 (fun _ h9 => h9) rfl dX12_input_29 ?_
      refine lv_iload_n hx hb dX12_input_32 rfl (lv_at hl 1 rfl) ?_
      refine va_lald hx hb hK hP 28 3 mwd_a28 rfl (x_in (by omega) (by omega)) dX12_input_33 ?_
      refine lv_topl (fun j_9 ej_9 => ?_)
      have ej_9 : j_9 = (σ.2.2.2 45) (Int32.toNatClampNeg k) := ej_9
      refine lv_goto (tgt := 43) hx hb dX12_input_34 (by decide) ?_
      exact x_lretW (v := j_9) (u := ()) hx hb hr hQ trivial hP hD hK hS dX12_input_43 hlocks
  · have kc_6 : r_5.toInt = 0 := by have h9 := c_6; simp only [ge_iff_le, gt_iff_lt, x_lt, x_le, x_eq, ne_eq, Int32.not_lt, Int32.not_le] at h9; simp only [Int32.reduceToInt] at h9; omega
    refine lv_ldc2 (v := (-2000000000)) hx hb hown (hts (.constantLong RX12 406 (-2000000000)) (List.mem_of_getElem? (i := 4) rfl)) dX12_input_18 ?_
    refine lv_goto (tgt := 43) hx hb dX12_input_21 (by decide) ?_
    exact x_lretW (v := (-2000000000)) (u := ()) hx hb hr hQ trivial hP hD hK hS dX12_input_43 hlocks

def v_q_put : List Cond := .code yX12_put cX12_put 6 (some .boolean) :: ([.fieldLink RX12 60 "SlopeRunnerModel" "has" "[I", .fieldLink RX12 365 "SlopeRunnerModel" "done" "I", .fieldLink RX12 103 "SlopeRunnerModel" "doneInput" "[I", .fieldLink RX12 106 "SlopeRunnerModel" "wasAbove" "[J", .fieldLink RX12 97 "SlopeRunnerModel" "putAbove" "[J", .fieldLink RX12 109 "SlopeRunnerModel" "wasBelow" "[J", .fieldLink RX12 100 "SlopeRunnerModel" "putBelow" "[J", .fieldLink RX12 112 "SlopeRunnerModel" "isAbove" "[J", .fieldLink RX12 115 "SlopeRunnerModel" "isBelow" "[J", .fieldLink RX12 368 "SlopeRunnerModel" "doneAll" "I", .constantLong RX12 404 (-1000000000), .constantLong RX12 398 1000000000] ++ ((wsS RX12 231 yX12_isIn v_q_isIn) ++ ((wsS RX12 394 yX12_common v_q_common) ++ wsX120)))
theorem g_q_put_0 : GoodIn v_q_put (wsS RX12 231 yX12_isIn v_q_isIn) := goodIn_sub (fun w h => List.mem_cons_of_mem _ (List.mem_append_right _ (List.mem_append_left _ h))) (by decide +kernel)
theorem g_q_put_1 : GoodIn v_q_put (wsS RX12 394 yX12_common v_q_common) := goodIn_sub (fun w h => List.mem_cons_of_mem _ (List.mem_append_right _ (List.mem_append_right _ (List.mem_append_left _ h)))) (by decide +kernel)
set_option maxHeartbeats 4000000 in
set_option maxRecDepth 100000 in
theorem q_put (l : Launch) (D : va_G) (y : Nat → ClassId) (sz : Nat) (ad : Nat → Nat) (zw : Nat → Nat → Int32) (σ : OS) (k a b : Int32) (h5 : 0 ≤ (σ.2.2.1 24 5).toInt ∧ (σ.2.2.1 24 5).toInt ≤ 8) (hd0 : 0 ≤ (σ.1 47).toInt) (hd1 : (σ.1 47).toInt ≤ (σ.1 48).toInt) (hd2 : (σ.1 48).toInt ≤ 40) (hB49 : bI (σ.2.2.1 49) 0 7) (hB50 : bJ (σ.2.2.2 50) (-1000000000) 1000000000) (hB51 : bJ (σ.2.2.2 51) 0 1000000000) (hB52 : bJ (σ.2.2.2 52) (-1000000000) 1000000000) (hB53 : bJ (σ.2.2.2 53) 0 1000000000) (hB45 : bJ (σ.2.2.2 45) (-1000000000) 1000000000) (hB46 : bJ (σ.2.2.2 46) 0 1000000000) : Met l yX12_put v_q_put ({ frames := 2, cells := 0, slots := 0, locals := 50 } : Room) (va_Pc [.ref (ad 1), .int k, .int a, .int b] (xPre D (xT y) (mwd y ad zw σ) sz)) (va_Qi (fun (r : Int32) (u : Int32 × Int32 × (Nat → Int32) × (Nat → Int64) × (Nat → Int64) × (Nat → Int64) × (Nat → Int64) × (Nat → Int64) × (Nat → Int64)) => (0 ≤ u.1.toInt ∧ u.1.toInt ≤ u.2.1.toInt ∧ u.2.1.toInt ≤ 40) ∧ bI u.2.2.1 0 7 ∧ bJ u.2.2.2.1 (-1000000000) 1000000000 ∧ bJ u.2.2.2.2.1 0 1000000000 ∧ bJ u.2.2.2.2.2.1 (-1000000000) 1000000000 ∧ bJ u.2.2.2.2.2.2.1 0 1000000000 ∧ bJ u.2.2.2.2.2.2.2.1 (-1000000000) 1000000000 ∧ bJ u.2.2.2.2.2.2.2.2 0 1000000000) (fun (u : Int32 × Int32 × (Nat → Int32) × (Nat → Int64) × (Nat → Int64) × (Nat → Int64) × (Nat → Int64) × (Nat → Int64) × (Nat → Int64)) => xB D (xT y) (va_A (mwd y ad zw σ) sz) (mwd y ad zw (tJ (tJ (tJ (tJ (tJ (tJ (tI (sI (sI σ 47 u.1) 48 u.2.1) 49 u.2.2.1) 50 u.2.2.2.1) 51 u.2.2.2.2.1) 52 u.2.2.2.2.2.1) 53 u.2.2.2.2.2.2.1) 45 u.2.2.2.2.2.2.2.1) 46 u.2.2.2.2.2.2.2.2))) (va_A (mwd y ad zw σ) sz)) 0 0 (va_A (mwd y ad zw σ) sz) := by
  refine x_meti (cc := cX12_put) (maxL := 6) (by decide) rfl (Nat.le_of_ble_eq_true rfl) ?_
  intro p e s m below meth c A H locs Q hx hb hml hown hts hr hlocks hmn hA hP hK hD hS ls hl hQ
  have hl : lv_has ls 6 [(0, .ref (ad 1)), (1, .int k), (2, .int a), (3, .int b)] := hl
  have fl60 := hts (.fieldLink RX12 60 "SlopeRunnerModel" "has" "[I") (List.mem_of_getElem? (i := 1) rfl)
  have inX12 : ∀ w ∈ wsX120, w ∈ v_q_put := (fun w h => List.mem_cons_of_mem _ (List.mem_append_right _ (List.mem_append_right _ (List.mem_append_right _ h))))
  have kk_1 : (1 : Int32).toInt = 1 := rfl
  have kl_0 : (0 : Int64).toInt = 0 := rfl
  have kk_0 : (0 : Int32).toInt = 0 := rfl
  have kl_m1000000000 : ((-1000000000) : Int64).toInt = -1000000000 := rfl
  have kl_1000000000 : (1000000000 : Int64).toInt = 1000000000 := rfl
  have kl_1 : (1 : Int64).toInt = 1 := rfl
  have fl365 := hts (.fieldLink RX12 365 "SlopeRunnerModel" "done" "I") (List.mem_of_getElem? (i := 2) rfl)
  have kk_40 : (40 : Int32).toInt = 40 := rfl
  have fl103 := hts (.fieldLink RX12 103 "SlopeRunnerModel" "doneInput" "[I") (List.mem_of_getElem? (i := 3) rfl)
  have fl106 := hts (.fieldLink RX12 106 "SlopeRunnerModel" "wasAbove" "[J") (List.mem_of_getElem? (i := 4) rfl)
  have fl97 := hts (.fieldLink RX12 97 "SlopeRunnerModel" "putAbove" "[J") (List.mem_of_getElem? (i := 5) rfl)
  have fl109 := hts (.fieldLink RX12 109 "SlopeRunnerModel" "wasBelow" "[J") (List.mem_of_getElem? (i := 6) rfl)
  have fl100 := hts (.fieldLink RX12 100 "SlopeRunnerModel" "putBelow" "[J") (List.mem_of_getElem? (i := 7) rfl)
  have fl112 := hts (.fieldLink RX12 112 "SlopeRunnerModel" "isAbove" "[J") (List.mem_of_getElem? (i := 8) rfl)
  have fl115 := hts (.fieldLink RX12 115 "SlopeRunnerModel" "isBelow" "[J") (List.mem_of_getElem? (i := 9) rfl)
  have fl368 := hts (.fieldLink RX12 368 "SlopeRunnerModel" "doneAll" "I") (List.mem_of_getElem? (i := 10) rfl)
  refine lv_iload_n hx hb dX12_put_0 rfl (lv_at hl 1 rfl) ?_
  refine lv_i2l hx hb dX12_put_1 rfl ?_
  refine lv_topl (fun j_1 ej_1 => ?_)
  have vj_1 : j_1.toInt = k.toInt := by rw [ej_1]; exact Int32.toInt_toInt64 _
  refine lv_lconst (v := 0) hx hb dX12_put_2 (by decide) ?_
  refine lv_aload_n hx hb dX12_put_3 rfl (lv_at hl 0 rfl) ?_
  refine va_get (D := D) (ci := 11) (v := .ref (ad 24)) (C := RX12) (T := TX12) (N := 85) hx hb hts inX12 hown hK hP 0 mwd_o0 rfl 24 (by decide) fl60 (fun _ h9 => h9) rfl dX12_put_4 ?_
  refine lv_iconst (v := 5) hx hb dX12_put_7 (by decide) ?_
  refine va_iald hx hb hK hP 16 2 mwd_a16 rfl (x_in (by decide) (by decide)) dX12_put_8 ?_
  refine lv_topi (fun i_2 ei_2 => ?_)
  have ei_2 : i_2 = (σ.2.2.1 24) (Int32.toNatClampNeg 5) := ei_2
  have gi_2 : 0 ≤ i_2.toInt ∧ i_2.toInt ≤ 8 := by rw [show i_2 = σ.2.2.1 24 5 from ei_2]; exact h5
  refine lv_iconst (v := 1) hx hb dX12_put_9 (by decide) ?_
  refine lv_isub hx hb dX12_put_10 ?_
  refine lv_topi (fun i_3 ei_3 => ?_)
  have vi_3 : i_3.toInt = i_2.toInt - 1 := by have h9 := x_sub ei_3 (by omega) (by omega); omega
  refine lv_i2l hx hb dX12_put_11 rfl ?_
  refine lv_topl (fun j_4 ej_4 => ?_)
  have vj_4 : j_4.toInt = i_3.toInt := by rw [ej_4]; exact Int32.toInt_toInt64 _
  refine x_calliN (va_runS (As := [.long j_1, .long 0, .long j_4]) (rest := []) ⟨hx, hb, hml, hown, hts⟩ (q_isIn l D y H.size j_1 0 j_4) (cwS 3 hts g_q_put_0 rfl rfl rfl (by decide +kernel) ⟨Nat.le_of_ble_eq_true rfl, Nat.le_of_ble_eq_true rfl⟩) (x_preS hK (x_nilP D H) (x_nilD A)) rfl rfl hl.1 rfl (lv_room (Nat.le_of_ble_eq_true rfl)) dX12_put_12 ⟨Nat.le_of_ble_eq_true rfl, Nat.le_of_ble_eq_true rfl⟩) hP hD hS hA (fun r_5 u H locs hw hP hD hS => ?_)
  try dsimp only at hw
  refine lv_if_eq (tgt := 44) hx hb dX12_put_15 (by decide) (fun c_6 => ?_) (fun c_6 => ?_)
  · have kc_6 : r_5.toInt = 0 := by have h9 := c_6; simp only [ge_iff_le, gt_iff_lt, x_lt, x_le, x_eq, ne_eq, Int32.not_lt, Int32.not_le] at h9; simp only [Int32.reduceToInt] at h9; omega
    refine lv_iconst (v := 0) hx hb dX12_put_44 (by decide) ?_
    have hP : va_P D vwCl (mwd y ad zw (tJ (tJ (tJ (tJ (tJ (tJ (tI (sI (sI σ 47 (σ.1 47)) 48 (σ.1 48)) 49 (σ.2.2.1 49)) 50 (σ.2.2.2 50)) 51 (σ.2.2.2 51)) 52 (σ.2.2.2 52)) 53 (σ.2.2.2 53)) 45 (σ.2.2.2 45)) 46 (σ.2.2.2 46))) H := hP
    have hD : va_D A (mwd y ad zw (tJ (tJ (tJ (tJ (tJ (tJ (tI (sI (sI σ 47 (σ.1 47)) 48 (σ.1 48)) 49 (σ.2.2.1 49)) 50 (σ.2.2.2 50)) 51 (σ.2.2.2 51)) 52 (σ.2.2.2 52)) 53 (σ.2.2.2 53)) 45 (σ.2.2.2 45)) 46 (σ.2.2.2 46))) := hD
    exact x_zretW (v := 0) (u := ((σ.1 47), (σ.1 48), (σ.2.2.1 49), (σ.2.2.2 50), (σ.2.2.2 51), (σ.2.2.2 52), (σ.2.2.2 53), (σ.2.2.2 45), (σ.2.2.2 46))) hx hb hr hQ rfl (by (try dsimp only); exact ⟨⟨by omega, by omega, by omega⟩, hB49, hB50, hB51, hB52, hB53, hB45, hB46⟩) hP hD hK hS dX12_put_45 hlocks
  · have kc_6 : r_5.toInt ≠ 0 := by have h9 := c_6; simp only [ge_iff_le, gt_iff_lt, x_lt, x_le, x_eq, ne_eq, Int32.not_lt, Int32.not_le] at h9; simp only [Int32.reduceToInt] at h9; omega
    refine lv_iload_n hx hb dX12_put_18 rfl (lv_at hl 2 rfl) ?_
    refine lv_i2l hx hb dX12_put_19 rfl ?_
    refine lv_topl (fun j_7 ej_7 => ?_)
    have vj_7 : j_7.toInt = a.toInt := by rw [ej_7]; exact Int32.toInt_toInt64 _
    refine lv_ldc2 (v := (-1000000000)) hx hb hown (hts (.constantLong RX12 404 (-1000000000)) (List.mem_of_getElem? (i := 11) rfl)) dX12_put_20 ?_
    refine lv_ldc2 (v := 1000000000) hx hb hown (hts (.constantLong RX12 398 1000000000) (List.mem_of_getElem? (i := 12) rfl)) dX12_put_23 ?_
    refine x_calliN (va_runS (As := [.long j_7, .long (-1000000000), .long 1000000000]) (rest := []) ⟨hx, hb, hml, hown, hts⟩ (q_isIn l D y H.size j_7 (-1000000000) 1000000000) (cwS 3 hts g_q_put_0 rfl rfl rfl (by decide +kernel) ⟨Nat.le_of_ble_eq_true rfl, Nat.le_of_ble_eq_true rfl⟩) (x_preS hK (x_nilP D H) (x_nilD A)) rfl rfl hl.1 rfl (lv_room (Nat.le_of_ble_eq_true rfl)) dX12_put_26 ⟨Nat.le_of_ble_eq_true rfl, Nat.le_of_ble_eq_true rfl⟩) hP hD hS hA (fun r_8 u H locs hw hP hD hS => ?_)
    try dsimp only at hw
    refine lv_if_eq (tgt := 44) hx hb dX12_put_29 (by decide) (fun c_9 => ?_) (fun c_9 => ?_)
    · have kc_9 : r_8.toInt = 0 := by have h9 := c_9; simp only [ge_iff_le, gt_iff_lt, x_lt, x_le, x_eq, ne_eq, Int32.not_lt, Int32.not_le] at h9; simp only [Int32.reduceToInt] at h9; omega
      refine lv_iconst (v := 0) hx hb dX12_put_44 (by decide) ?_
      have hP : va_P D vwCl (mwd y ad zw (tJ (tJ (tJ (tJ (tJ (tJ (tI (sI (sI σ 47 (σ.1 47)) 48 (σ.1 48)) 49 (σ.2.2.1 49)) 50 (σ.2.2.2 50)) 51 (σ.2.2.2 51)) 52 (σ.2.2.2 52)) 53 (σ.2.2.2 53)) 45 (σ.2.2.2 45)) 46 (σ.2.2.2 46))) H := hP
      have hD : va_D A (mwd y ad zw (tJ (tJ (tJ (tJ (tJ (tJ (tI (sI (sI σ 47 (σ.1 47)) 48 (σ.1 48)) 49 (σ.2.2.1 49)) 50 (σ.2.2.2 50)) 51 (σ.2.2.2 51)) 52 (σ.2.2.2 52)) 53 (σ.2.2.2 53)) 45 (σ.2.2.2 45)) 46 (σ.2.2.2 46))) := hD
      exact x_zretW (v := 0) (u := ((σ.1 47), (σ.1 48), (σ.2.2.1 49), (σ.2.2.2 50), (σ.2.2.2 51), (σ.2.2.2 52), (σ.2.2.2 53), (σ.2.2.2 45), (σ.2.2.2 46))) hx hb hr hQ rfl (by (try dsimp only); exact ⟨⟨by omega, by omega, by omega⟩, hB49, hB50, hB51, hB52, hB53, hB45, hB46⟩) hP hD hK hS dX12_put_45 hlocks
    · have kc_9 : r_8.toInt ≠ 0 := by have h9 := c_9; simp only [ge_iff_le, gt_iff_lt, x_lt, x_le, x_eq, ne_eq, Int32.not_lt, Int32.not_le] at h9; simp only [Int32.reduceToInt] at h9; omega
      refine lv_iload_n hx hb dX12_put_32 rfl (lv_at hl 3 rfl) ?_
      refine lv_i2l hx hb dX12_put_33 rfl ?_
      refine lv_topl (fun j_10 ej_10 => ?_)
      have vj_10 : j_10.toInt = b.toInt := by rw [ej_10]; exact Int32.toInt_toInt64 _
      refine lv_lconst (v := 1) hx hb dX12_put_34 (by decide) ?_
      refine lv_ldc2 (v := 1000000000) hx hb hown (hts (.constantLong RX12 398 1000000000) (List.mem_of_getElem? (i := 12) rfl)) dX12_put_35 ?_
      refine x_calliN (va_runS (As := [.long j_10, .long 1, .long 1000000000]) (rest := []) ⟨hx, hb, hml, hown, hts⟩ (q_isIn l D y H.size j_10 1 1000000000) (cwS 3 hts g_q_put_0 rfl rfl rfl (by decide +kernel) ⟨Nat.le_of_ble_eq_true rfl, Nat.le_of_ble_eq_true rfl⟩) (x_preS hK (x_nilP D H) (x_nilD A)) rfl rfl hl.1 rfl (lv_room (Nat.le_of_ble_eq_true rfl)) dX12_put_38 ⟨Nat.le_of_ble_eq_true rfl, Nat.le_of_ble_eq_true rfl⟩) hP hD hS hA (fun r_11 u H locs hw hP hD hS => ?_)
      try dsimp only at hw
      refine lv_if_ne (tgt := 46) hx hb dX12_put_41 (by decide) (fun c_12 => ?_) (fun c_12 => ?_)
      · have kc_12 : r_11.toInt ≠ 0 := by have h9 := c_12; simp only [ge_iff_le, gt_iff_lt, x_lt, x_le, x_eq, ne_eq, Int32.not_lt, Int32.not_le] at h9; simp only [Int32.reduceToInt] at h9; omega
        refine lv_aload_n hx hb dX12_put_46 rfl (lv_at hl 0 rfl) ?_
        refine va_get (D := D) (ci := 11) (v := .int (σ.1 47)) (C := RX12) (T := TX12) (N := 85) hx hb hts inX12 hown hK hP 0 mwd_o0 rfl 47 (by decide) fl365 (fun _ h9 => h9) rfl dX12_put_47 ?_
        refine lv_bipush (v := 40) hx hb dX12_put_50 (by decide) ?_
        refine lv_icmp_ne (tgt := 161) hx hb dX12_put_52 (by decide) (fun c_13 => ?_) (fun c_13 => ?_)
        · have kc_13 : (σ.1 47).toInt ≠ 40 := by have h9 := c_13; simp only [ge_iff_le, gt_iff_lt, x_lt, x_le, x_eq, ne_eq, Int32.not_lt, Int32.not_le] at h9; simp only [Int32.reduceToInt] at h9; omega
          refine lv_iload_n hx hb dX12_put_161 rfl (lv_at hl 2 rfl) ?_
          refine lv_i2l hx hb dX12_put_162 rfl ?_
          refine lv_topl (fun j_14 ej_14 => ?_)
          have vj_14 : j_14.toInt = a.toInt := by rw [ej_14]; exact Int32.toInt_toInt64 _
          refine lv_iload_n hx hb dX12_put_163 rfl (lv_at hl 3 rfl) ?_
          refine lv_i2l hx hb dX12_put_164 rfl ?_
          refine lv_topl (fun j_15 ej_15 => ?_)
          have vj_15 : j_15.toInt = b.toInt := by rw [ej_15]; exact Int32.toInt_toInt64 _
          refine x_calllN (va_runS (As := [.long j_14, .long j_15]) (rest := []) ⟨hx, hb, hml, hown, hts⟩ (q_common l D y H.size j_14 j_15 (by first | omega | decide) (by first | omega | decide) (by first | omega | decide) (by first | omega | decide)) (cwS 2 hts g_q_put_1 rfl rfl rfl (by decide +kernel) ⟨Nat.le_of_ble_eq_true rfl, Nat.le_of_ble_eq_true rfl⟩) (x_preS hK (x_nilP D H) (x_nilD A)) rfl rfl hl.1 rfl (lv_room (Nat.le_of_ble_eq_true rfl)) dX12_put_165 ⟨Nat.le_of_ble_eq_true rfl, Nat.le_of_ble_eq_true rfl⟩) hP hD hS hA (fun r_16 u H locs hw hP hD hS => ?_)
          try dsimp only at hw
          refine lv_lstore (lv' := [(4, .long r_16), (0, .ref (ad 1)), (1, .int k), (2, .int a), (3, .int b)]) hx hb dX12_put_168 hl (by decide) rfl (fun ls hl => ?_)
          refine lv_aload_n hx hb dX12_put_170 rfl (lv_at hl 1 rfl) ?_
          refine va_get (D := D) (ci := 11) (v := .ref (ad 49)) (C := RX12) (T := TX12) (N := 85) hx hb hts inX12 hown hK hP 0 mwd_o0 rfl 49 (by decide) fl103 (fun _ h9 => h9) rfl dX12_put_171 ?_
          refine lv_aload_n hx hb dX12_put_174 rfl (lv_at hl 1 rfl) ?_
          refine va_get (D := D) (ci := 11) (v := .int (σ.1 47)) (C := RX12) (T := TX12) (N := 85) hx hb hts inX12 hown hK hP 0 mwd_o0 rfl 47 (by decide) fl365 (fun _ h9 => h9) rfl dX12_put_175 ?_
          refine lv_iload_n hx hb dX12_put_178 rfl (lv_at hl 2 rfl) ?_
          refine va_iast hx hb hK hP hD hS 30 2 mwd_a30 rfl (x_in (by omega) (by omega)) dX12_put_179 (fun H locs hP hD hS => ?_)
          obtain ⟨f_17, ef_17⟩ : ∃ z9 : Nat → Int32, z9 = (upd (σ.2.2.1 49) (Int32.toNatClampNeg (σ.1 47)) k) := ⟨_, rfl⟩
          have hP : va_P D vwCl (mwd y ad zw (tI σ 49 f_17)) H := by rw [ef_17]; exact x_trP hP mwd_s30
          have hD : va_D A (mwd y ad zw (tI σ 49 f_17)) := by rw [ef_17]; exact x_trD hD mwd_s30
          have hvf_17 : bI f_17 0 7 := by rw [ef_17]; exact b_upd hB49 (by omega) (by omega)
          refine lv_aload_n hx hb dX12_put_180 rfl (lv_at hl 1 rfl) ?_
          refine va_get (D := D) (ci := 11) (v := .ref (ad 50)) (C := RX12) (T := TX12) (N := 85) hx hb hts inX12 hown hK hP 0 mwd_o0 rfl 50 (by decide) fl106 (fun _ h9 => h9) rfl dX12_put_181 ?_
          refine lv_aload_n hx hb dX12_put_184 rfl (lv_at hl 1 rfl) ?_
          refine va_get (D := D) (ci := 11) (v := .int (σ.1 47)) (C := RX12) (T := TX12) (N := 85) hx hb hts inX12 hown hK hP 0 mwd_o0 rfl 47 (by decide) fl365 (fun _ h9 => h9) rfl dX12_put_185 ?_
          refine lv_aload_n hx hb dX12_put_188 rfl (lv_at hl 1 rfl) ?_
          refine va_get (D := D) (ci := 11) (v := .ref (ad 45)) (C := RX12) (T := TX12) (N := 85) hx hb hts inX12 hown hK hP 0 mwd_o0 rfl 45 (by decide) fl97 (fun _ h9 => h9) rfl dX12_put_189 ?_
          refine lv_iload_n hx hb dX12_put_192 rfl (lv_at hl 2 rfl) ?_
          refine va_lald hx hb hK hP 28 3 mwd_a28 rfl (x_in (by omega) (by omega)) dX12_put_193 ?_
          refine lv_topl (fun j_18 ej_18 => ?_)
          have ej_18 : j_18 = (σ.2.2.2 45) (Int32.toNatClampNeg k) := ej_18
          have bj_18 := b_atJ hB45 ej_18
          refine va_last hx hb hK hP hD hS 31 3 mwd_a31 rfl (x_in (by omega) (by omega)) dX12_put_194 (fun H locs hP hD hS => ?_)
          obtain ⟨f_19, ef_19⟩ : ∃ z9 : Nat → Int64, z9 = (vp_updL (σ.2.2.2 50) (Int32.toNatClampNeg (σ.1 47)) j_18) := ⟨_, rfl⟩
          have hP : va_P D vwCl (mwd y ad zw (tJ (tI σ 49 f_17) 50 f_19)) H := by rw [ef_19]; exact x_trP hP mwd_s31
          have hD : va_D A (mwd y ad zw (tJ (tI σ 49 f_17) 50 f_19)) := by rw [ef_19]; exact x_trD hD mwd_s31
          have hvf_19 : bJ f_19 (-1000000000) 1000000000 := by rw [ef_19]; exact b_updJ hB50 (by omega) (by omega)
          refine lv_aload_n hx hb dX12_put_195 rfl (lv_at hl 1 rfl) ?_
          refine va_get (D := D) (ci := 11) (v := .ref (ad 51)) (C := RX12) (T := TX12) (N := 85) hx hb hts inX12 hown hK hP 0 mwd_o0 rfl 51 (by decide) fl109 (fun _ h9 => h9) rfl dX12_put_196 ?_
          refine lv_aload_n hx hb dX12_put_199 rfl (lv_at hl 1 rfl) ?_
          refine va_get (D := D) (ci := 11) (v := .int (σ.1 47)) (C := RX12) (T := TX12) (N := 85) hx hb hts inX12 hown hK hP 0 mwd_o0 rfl 47 (by decide) fl365 (fun _ h9 => h9) rfl dX12_put_200 ?_
          refine lv_aload_n hx hb dX12_put_203 rfl (lv_at hl 1 rfl) ?_
          refine va_get (D := D) (ci := 11) (v := .ref (ad 46)) (C := RX12) (T := TX12) (N := 85) hx hb hts inX12 hown hK hP 0 mwd_o0 rfl 46 (by decide) fl100 (fun _ h9 => h9) rfl dX12_put_204 ?_
          refine lv_iload_n hx hb dX12_put_207 rfl (lv_at hl 2 rfl) ?_
          refine va_lald hx hb hK hP 29 3 mwd_a29 rfl (x_in (by omega) (by omega)) dX12_put_208 ?_
          refine lv_topl (fun j_20 ej_20 => ?_)
          have ej_20 : j_20 = (σ.2.2.2 46) (Int32.toNatClampNeg k) := ej_20
          have bj_20 := b_atJ hB46 ej_20
          refine va_last hx hb hK hP hD hS 32 3 mwd_a32 rfl (x_in (by omega) (by omega)) dX12_put_209 (fun H locs hP hD hS => ?_)
          obtain ⟨f_21, ef_21⟩ : ∃ z9 : Nat → Int64, z9 = (vp_updL (σ.2.2.2 51) (Int32.toNatClampNeg (σ.1 47)) j_20) := ⟨_, rfl⟩
          have hP : va_P D vwCl (mwd y ad zw (tJ (tJ (tI σ 49 f_17) 50 f_19) 51 f_21)) H := by rw [ef_21]; exact x_trP hP mwd_s32
          have hD : va_D A (mwd y ad zw (tJ (tJ (tI σ 49 f_17) 50 f_19) 51 f_21)) := by rw [ef_21]; exact x_trD hD mwd_s32
          have hvf_21 : bJ f_21 0 1000000000 := by rw [ef_21]; exact b_updJ hB51 (by omega) (by omega)
          refine lv_aload_n hx hb dX12_put_210 rfl (lv_at hl 1 rfl) ?_
          refine va_get (D := D) (ci := 11) (v := .ref (ad 52)) (C := RX12) (T := TX12) (N := 85) hx hb hts inX12 hown hK hP 0 mwd_o0 rfl 52 (by decide) fl112 (fun _ h9 => h9) rfl dX12_put_211 ?_
          refine lv_aload_n hx hb dX12_put_214 rfl (lv_at hl 1 rfl) ?_
          refine va_get (D := D) (ci := 11) (v := .int (σ.1 47)) (C := RX12) (T := TX12) (N := 85) hx hb hts inX12 hown hK hP 0 mwd_o0 rfl 47 (by decide) fl365 (fun _ h9 => h9) rfl dX12_put_215 ?_
          refine lv_iload_n hx hb dX12_put_218 rfl (lv_at hl 3 rfl) ?_
          refine lv_i2l hx hb dX12_put_219 rfl ?_
          refine lv_topl (fun j_22 ej_22 => ?_)
          have vj_22 : j_22.toInt = a.toInt := by rw [ej_22]; exact Int32.toInt_toInt64 _
          refine lv_lload hx hb dX12_put_220 (lv_at hl 0 rfl) ?_
          refine lv_ldiv hx hb dX12_put_222 (fun h9 => absurd (show r_16.toInt = 0 by rw [h9]; rfl) (by omega)) ?_
          refine lv_topl (fun j_23 ej_23 => ?_)
          have vj_23 := x_divL ej_23 (by omega)
          refine va_last hx hb hK hP hD hS 33 3 mwd_a33 rfl (x_in (by omega) (by omega)) dX12_put_223 (fun H locs hP hD hS => ?_)
          obtain ⟨f_24, ef_24⟩ : ∃ z9 : Nat → Int64, z9 = (vp_updL (σ.2.2.2 52) (Int32.toNatClampNeg (σ.1 47)) j_23) := ⟨_, rfl⟩
          have hP : va_P D vwCl (mwd y ad zw (tJ (tJ (tJ (tI σ 49 f_17) 50 f_19) 51 f_21) 52 f_24)) H := by rw [ef_24]; exact x_trP hP mwd_s33
          have hD : va_D A (mwd y ad zw (tJ (tJ (tJ (tI σ 49 f_17) 50 f_19) 51 f_21) 52 f_24)) := by rw [ef_24]; exact x_trD hD mwd_s33
          have hvf_24 : bJ f_24 (-1000000000) 1000000000 := by rw [ef_24]; exact b_updJ hB52 (by omega) (by omega)
          refine lv_aload_n hx hb dX12_put_224 rfl (lv_at hl 1 rfl) ?_
          refine va_get (D := D) (ci := 11) (v := .ref (ad 53)) (C := RX12) (T := TX12) (N := 85) hx hb hts inX12 hown hK hP 0 mwd_o0 rfl 53 (by decide) fl115 (fun _ h9 => h9) rfl dX12_put_225 ?_
          refine lv_aload_n hx hb dX12_put_228 rfl (lv_at hl 1 rfl) ?_
          refine va_get (D := D) (ci := 11) (v := .int (σ.1 47)) (C := RX12) (T := TX12) (N := 85) hx hb hts inX12 hown hK hP 0 mwd_o0 rfl 47 (by decide) fl365 (fun _ h9 => h9) rfl dX12_put_229 ?_
          refine lv_iload_n hx hb dX12_put_232 rfl (lv_at hl 4 rfl) ?_
          refine lv_i2l hx hb dX12_put_233 rfl ?_
          refine lv_topl (fun j_25 ej_25 => ?_)
          have vj_25 : j_25.toInt = b.toInt := by rw [ej_25]; exact Int32.toInt_toInt64 _
          refine lv_lload hx hb dX12_put_234 (lv_at hl 0 rfl) ?_
          refine lv_ldiv hx hb dX12_put_236 (fun h9 => absurd (show r_16.toInt = 0 by rw [h9]; rfl) (by omega)) ?_
          refine lv_topl (fun j_26 ej_26 => ?_)
          have vj_26 := x_divL ej_26 (by omega)
          refine va_last hx hb hK hP hD hS 34 3 mwd_a34 rfl (x_in (by omega) (by omega)) dX12_put_237 (fun H locs hP hD hS => ?_)
          obtain ⟨f_27, ef_27⟩ : ∃ z9 : Nat → Int64, z9 = (vp_updL (σ.2.2.2 53) (Int32.toNatClampNeg (σ.1 47)) j_26) := ⟨_, rfl⟩
          have hP : va_P D vwCl (mwd y ad zw (tJ (tJ (tJ (tJ (tI σ 49 f_17) 50 f_19) 51 f_21) 52 f_24) 53 f_27)) H := by rw [ef_27]; exact x_trP hP mwd_s34
          have hD : va_D A (mwd y ad zw (tJ (tJ (tJ (tJ (tI σ 49 f_17) 50 f_19) 51 f_21) 52 f_24) 53 f_27)) := by rw [ef_27]; exact x_trD hD mwd_s34
          have hvf_27 : bJ f_27 0 1000000000 := by rw [ef_27]; exact b_updJ hB53 (by omega) (by omega)
          refine lv_aload_n hx hb dX12_put_238 rfl (lv_at hl 1 rfl) ?_
          refine va_get (D := D) (ci := 11) (v := .ref (ad 45)) (C := RX12) (T := TX12) (N := 85) hx hb hts inX12 hown hK hP 0 mwd_o0 rfl 45 (by decide) fl97 (fun _ h9 => h9) rfl dX12_put_239 ?_
          refine lv_iload_n hx hb dX12_put_242 rfl (lv_at hl 2 rfl) ?_
          refine lv_iload_n hx hb dX12_put_243 rfl (lv_at hl 3 rfl) ?_
          refine lv_i2l hx hb dX12_put_244 rfl ?_
          refine lv_topl (fun j_28 ej_28 => ?_)
          have vj_28 : j_28.toInt = a.toInt := by rw [ej_28]; exact Int32.toInt_toInt64 _
          refine lv_lload hx hb dX12_put_245 (lv_at hl 0 rfl) ?_
          refine lv_ldiv hx hb dX12_put_247 (fun h9 => absurd (show r_16.toInt = 0 by rw [h9]; rfl) (by omega)) ?_
          refine lv_topl (fun j_29 ej_29 => ?_)
          have vj_29 := x_divL ej_29 (by omega)
          refine va_last hx hb hK hP hD hS 28 3 mwd_a28 rfl (x_in (by omega) (by omega)) dX12_put_248 (fun H locs hP hD hS => ?_)
          obtain ⟨f_30, ef_30⟩ : ∃ z9 : Nat → Int64, z9 = (vp_updL (σ.2.2.2 45) (Int32.toNatClampNeg k) j_29) := ⟨_, rfl⟩
          have hP : va_P D vwCl (mwd y ad zw (tJ (tJ (tJ (tJ (tJ (tI σ 49 f_17) 50 f_19) 51 f_21) 52 f_24) 53 f_27) 45 f_30)) H := by rw [ef_30]; exact x_trP hP mwd_s28
          have hD : va_D A (mwd y ad zw (tJ (tJ (tJ (tJ (tJ (tI σ 49 f_17) 50 f_19) 51 f_21) 52 f_24) 53 f_27) 45 f_30)) := by rw [ef_30]; exact x_trD hD mwd_s28
          have hvf_30 : bJ f_30 (-1000000000) 1000000000 := by rw [ef_30]; exact b_updJ hB45 (by omega) (by omega)
          refine lv_aload_n hx hb dX12_put_249 rfl (lv_at hl 1 rfl) ?_
          refine va_get (D := D) (ci := 11) (v := .ref (ad 46)) (C := RX12) (T := TX12) (N := 85) hx hb hts inX12 hown hK hP 0 mwd_o0 rfl 46 (by decide) fl100 (fun _ h9 => h9) rfl dX12_put_250 ?_
          refine lv_iload_n hx hb dX12_put_253 rfl (lv_at hl 2 rfl) ?_
          refine lv_iload_n hx hb dX12_put_254 rfl (lv_at hl 4 rfl) ?_
          refine lv_i2l hx hb dX12_put_255 rfl ?_
          refine lv_topl (fun j_31 ej_31 => ?_)
          have vj_31 : j_31.toInt = b.toInt := by rw [ej_31]; exact Int32.toInt_toInt64 _
          refine lv_lload hx hb dX12_put_256 (lv_at hl 0 rfl) ?_
          refine lv_ldiv hx hb dX12_put_258 (fun h9 => absurd (show r_16.toInt = 0 by rw [h9]; rfl) (by omega)) ?_
          refine lv_topl (fun j_32 ej_32 => ?_)
          have vj_32 := x_divL ej_32 (by omega)
          refine va_last hx hb hK hP hD hS 29 3 mwd_a29 rfl (x_in (by omega) (by omega)) dX12_put_259 (fun H locs hP hD hS => ?_)
          obtain ⟨f_33, ef_33⟩ : ∃ z9 : Nat → Int64, z9 = (vp_updL (σ.2.2.2 46) (Int32.toNatClampNeg k) j_32) := ⟨_, rfl⟩
          have hP : va_P D vwCl (mwd y ad zw (tJ (tJ (tJ (tJ (tJ (tJ (tI σ 49 f_17) 50 f_19) 51 f_21) 52 f_24) 53 f_27) 45 f_30) 46 f_33)) H := by rw [ef_33]; exact x_trP hP mwd_s29
          have hD : va_D A (mwd y ad zw (tJ (tJ (tJ (tJ (tJ (tJ (tI σ 49 f_17) 50 f_19) 51 f_21) 52 f_24) 53 f_27) 45 f_30) 46 f_33)) := by rw [ef_33]; exact x_trD hD mwd_s29
          have hvf_33 : bJ f_33 0 1000000000 := by rw [ef_33]; exact b_updJ hB46 (by omega) (by omega)
          refine lv_aload_n hx hb dX12_put_260 rfl (lv_at hl 1 rfl) ?_
          refine lv_dup hx hb dX12_put_261 rfl ?_
          refine va_get (D := D) (ci := 11) (v := .int (σ.1 47)) (C := RX12) (T := TX12) (N := 85) hx hb hts inX12 hown hK hP 0 mwd_o0 rfl 47 (by decide) fl365 (fun _ h9 => h9) rfl dX12_put_262 ?_
          refine lv_iconst (v := 1) hx hb dX12_put_265 (by decide) ?_
          refine lv_iadd hx hb dX12_put_266 ?_
          refine lv_topi (fun i_34 ei_34 => ?_)
          have vi_34 : i_34.toInt = (σ.1 47).toInt + 1 := by have h9 := x_add ei_34 (by omega) (by omega); omega
          refine va_put (D := D) (ci := 11) (v := .int i_34) (ty := .int) (C := RX12) (T := TX12) (N := 85) hx hb hts inX12 tyX12 tyX12_ok nmX12 hown hK hP hD hS 0 mwd_o0 rfl 47 (by decide) fl365 (fun _ h9 => h9) rfl (by decide +kernel) rfl rfl (Nat.le_of_ble_eq_true rfl) dX12_put_267 (fun H locs hP hD hS => ?_)
          have hP : va_P D vwCl (mwd y ad zw (sI (tJ (tJ (tJ (tJ (tJ (tJ (tI σ 49 f_17) 50 f_19) 51 f_21) 52 f_24) 53 f_27) 45 f_30) 46 f_33) 47 i_34)) H := x_trP hP mwd_p0_47
          have hD : va_D A (mwd y ad zw (sI (tJ (tJ (tJ (tJ (tJ (tJ (tI σ 49 f_17) 50 f_19) 51 f_21) 52 f_24) 53 f_27) 45 f_30) 46 f_33) 47 i_34)) := x_trD hD mwd_p0_47
          refine lv_aload_n hx hb dX12_put_270 rfl (lv_at hl 1 rfl) ?_
          refine lv_aload_n hx hb dX12_put_271 rfl (lv_at hl 1 rfl) ?_
          refine va_get (D := D) (ci := 11) (v := .int i_34) (C := RX12) (T := TX12) (N := 85) hx hb hts inX12 hown hK hP 0 mwd_o0 rfl 47 (by decide) fl365 (fun _ h9 => h9) rfl dX12_put_272 ?_
          refine va_put (D := D) (ci := 11) (v := .int i_34) (ty := .int) (C := RX12) (T := TX12) (N := 85) hx hb hts inX12 tyX12 tyX12_ok nmX12 hown hK hP hD hS 0 mwd_o0 rfl 48 (by decide) fl368 (fun _ h9 => h9) rfl (by decide +kernel) rfl rfl (Nat.le_of_ble_eq_true rfl) dX12_put_275 (fun H locs hP hD hS => ?_)
          have hP : va_P D vwCl (mwd y ad zw (sI (sI (tJ (tJ (tJ (tJ (tJ (tJ (tI σ 49 f_17) 50 f_19) 51 f_21) 52 f_24) 53 f_27) 45 f_30) 46 f_33) 47 i_34) 48 i_34)) H := x_trP hP mwd_p0_48
          have hD : va_D A (mwd y ad zw (sI (sI (tJ (tJ (tJ (tJ (tJ (tJ (tI σ 49 f_17) 50 f_19) 51 f_21) 52 f_24) 53 f_27) 45 f_30) 46 f_33) 47 i_34) 48 i_34)) := x_trD hD mwd_p0_48
          refine lv_iconst (v := 1) hx hb dX12_put_278 (by decide) ?_
          have hP : va_P D vwCl (mwd y ad zw (tJ (tJ (tJ (tJ (tJ (tJ (tI (sI (sI σ 47 i_34) 48 i_34) 49 f_17) 50 f_19) 51 f_21) 52 f_24) 53 f_27) 45 f_30) 46 f_33)) H := hP
          have hD : va_D A (mwd y ad zw (tJ (tJ (tJ (tJ (tJ (tJ (tI (sI (sI σ 47 i_34) 48 i_34) 49 f_17) 50 f_19) 51 f_21) 52 f_24) 53 f_27) 45 f_30) 46 f_33)) := hD
          exact x_zretW (v := 1) (u := (i_34, i_34, f_17, f_19, f_21, f_24, f_27, f_30, f_33)) hx hb hr hQ rfl (by (try dsimp only); exact ⟨⟨by omega, by omega, by omega⟩, hvf_17, hvf_19, hvf_21, hvf_24, hvf_27, hvf_30, hvf_33⟩) hP hD hK hS dX12_put_279 hlocks
        · have kc_13 : (σ.1 47).toInt = 40 := by have h9 := c_13; simp only [ge_iff_le, gt_iff_lt, x_lt, x_le, x_eq, ne_eq, Int32.not_lt, Int32.not_le] at h9; simp only [Int32.reduceToInt] at h9; omega
          refine lv_iconst (v := 1) hx hb dX12_put_55 (by decide) ?_
          refine lv_istore (lv' := [(4, .int 1), (0, .ref (ad 1)), (1, .int k), (2, .int a), (3, .int b)]) hx hb dX12_put_56 hl (by decide) rfl (fun ls hl => ?_)
          have hP : va_P D vwCl (mwd y ad zw (tJ (tJ (tJ (tJ (tI σ 49 (σ.2.2.1 49)) 50 (σ.2.2.2 50)) 51 (σ.2.2.2 51)) 52 (σ.2.2.2 52)) 53 (σ.2.2.2 53))) H := hP
          have hD : va_D A (mwd y ad zw (tJ (tJ (tJ (tJ (tI σ 49 (σ.2.2.1 49)) 50 (σ.2.2.2 50)) 51 (σ.2.2.2 51)) 52 (σ.2.2.2 52)) 53 (σ.2.2.2 53))) := hD
          have loop : ∀ (fu : Nat) (j : Int32) (f0 : Nat → Int32) (f1 : Nat → Int64) (f2 : Nat → Int64) (f3 : Nat → Int64) (f4 : Nat → Int64) (H : Heap) (locs : List Loc) (ls : Array Slot), (1 ≤ j.toInt) → (j.toInt ≤ 40) → (bI f0 0 7) → (bJ f1 (-1000000000) 1000000000) → (bJ f2 0 1000000000) → (bJ f3 (-1000000000) 1000000000) → (bJ f4 0 1000000000) → (40 - j.toInt < (fu : Int)) → va_P D vwCl (mwd y ad zw (tJ (tJ (tJ (tJ (tI σ 49 f0) 50 f1) 51 f2) 52 f3) 53 f4)) H → va_D A (mwd y ad zw (tJ (tJ (tJ (tJ (tI σ 49 f0) 50 f1) 51 f2) 52 f3) 53 f4)) → va_S A s.heap H locs → lv_has ls 6 [(4, .int j), (3, .int b), (2, .int a), (1, .int k), (0, .ref (ad 1))] → W p l e ({ frames := 2, cells := 0, slots := 0, locals := 50 } : Room) s m ([.ref (ad 1), .int k, .int a, .int b] : List Value).toArray below meth c H locs 0 0 Q (F0 m 58 ls []) := by
            intro fu
            induction fu with
            | zero =>
              intro j f0 f1 f2 f3 f4 H locs ls hj0 hj1 hf0 hf1 hf2 hf3 hf4 hm
              exact absurd hm (by omega)
            | succ fu ih_loop =>
              intro j f0 f1 f2 f3 f4 H locs ls hj0 hj1 hf0 hf1 hf2 hf3 hf4 hm hP hD hS hl
              refine lv_iload hx hb dX12_put_58 (lv_at hl 0 rfl) ?_
              refine lv_bipush (v := 40) hx hb dX12_put_60 (by decide) ?_
              refine lv_icmp_ge (tgt := 151) hx hb dX12_put_62 (by decide) (fun c_35 => ?_) (fun c_35 => ?_)
              · have kc_35 : j.toInt ≥ 40 := by have h9 := c_35; simp only [ge_iff_le, gt_iff_lt, x_lt, x_le, x_eq, ne_eq, Int32.not_lt, Int32.not_le] at h9; simp only [Int32.reduceToInt] at h9; omega
                refine lv_aload_n hx hb dX12_put_151 rfl (lv_at hl 4 rfl) ?_
                refine lv_dup hx hb dX12_put_152 rfl ?_
                refine va_get (D := D) (ci := 11) (v := .int (σ.1 47)) (C := RX12) (T := TX12) (N := 85) hx hb hts inX12 hown hK hP 0 mwd_o0 rfl 47 (by decide) fl365 (fun _ h9 => h9) rfl dX12_put_153 ?_
                refine lv_iconst (v := 1) hx hb dX12_put_156 (by decide) ?_
                refine lv_isub hx hb dX12_put_157 ?_
                refine lv_topi (fun i_36 ei_36 => ?_)
                have vi_36 : i_36.toInt = (σ.1 47).toInt - 1 := by have h9 := x_sub ei_36 (by omega) (by omega); omega
                refine va_put (D := D) (ci := 11) (v := .int i_36) (ty := .int) (C := RX12) (T := TX12) (N := 85) hx hb hts inX12 tyX12 tyX12_ok nmX12 hown hK hP hD hS 0 mwd_o0 rfl 47 (by decide) fl365 (fun _ h9 => h9) rfl (by decide +kernel) rfl rfl (Nat.le_of_ble_eq_true rfl) dX12_put_158 (fun H locs hP hD hS => ?_)
                have hP : va_P D vwCl (mwd y ad zw (sI (tJ (tJ (tJ (tJ (tI σ 49 f0) 50 f1) 51 f2) 52 f3) 53 f4) 47 i_36)) H := x_trP hP mwd_p0_47
                have hD : va_D A (mwd y ad zw (sI (tJ (tJ (tJ (tJ (tI σ 49 f0) 50 f1) 51 f2) 52 f3) 53 f4) 47 i_36)) := x_trD hD mwd_p0_47
                refine lv_iload_n hx hb dX12_put_161 rfl (lv_at hl 2 rfl) ?_
                refine lv_i2l hx hb dX12_put_162 rfl ?_
                refine lv_topl (fun j_37 ej_37 => ?_)
                have vj_37 : j_37.toInt = a.toInt := by rw [ej_37]; exact Int32.toInt_toInt64 _
                refine lv_iload_n hx hb dX12_put_163 rfl (lv_at hl 1 rfl) ?_
                refine lv_i2l hx hb dX12_put_164 rfl ?_
                refine lv_topl (fun j_38 ej_38 => ?_)
                have vj_38 : j_38.toInt = b.toInt := by rw [ej_38]; exact Int32.toInt_toInt64 _
                refine x_calllN (va_runS (As := [.long j_37, .long j_38]) (rest := []) ⟨hx, hb, hml, hown, hts⟩ (q_common l D y H.size j_37 j_38 (by first | omega | decide) (by first | omega | decide) (by first | omega | decide) (by first | omega | decide)) (cwS 2 hts g_q_put_1 rfl rfl rfl (by decide +kernel) ⟨Nat.le_of_ble_eq_true rfl, Nat.le_of_ble_eq_true rfl⟩) (x_preS hK (x_nilP D H) (x_nilD A)) rfl rfl hl.1 rfl (lv_room (Nat.le_of_ble_eq_true rfl)) dX12_put_165 ⟨Nat.le_of_ble_eq_true rfl, Nat.le_of_ble_eq_true rfl⟩) hP hD hS hA (fun r_39 u H locs hw hP hD hS => ?_)
                try dsimp only at hw
                refine lv_lstore (lv' := [(4, .long r_39), (3, .int b), (2, .int a), (1, .int k), (0, .ref (ad 1))]) hx hb dX12_put_168 hl (by decide) rfl (fun ls hl => ?_)
                refine lv_aload_n hx hb dX12_put_170 rfl (lv_at hl 4 rfl) ?_
                refine va_get (D := D) (ci := 11) (v := .ref (ad 49)) (C := RX12) (T := TX12) (N := 85) hx hb hts inX12 hown hK hP 0 mwd_o0 rfl 49 (by decide) fl103 (fun _ h9 => h9) rfl dX12_put_171 ?_
                refine lv_aload_n hx hb dX12_put_174 rfl (lv_at hl 4 rfl) ?_
                refine va_get (D := D) (ci := 11) (v := .int i_36) (C := RX12) (T := TX12) (N := 85) hx hb hts inX12 hown hK hP 0 mwd_o0 rfl 47 (by decide) fl365 (fun _ h9 => h9) rfl dX12_put_175 ?_
                refine lv_iload_n hx hb dX12_put_178 rfl (lv_at hl 3 rfl) ?_
                refine va_iast hx hb hK hP hD hS 30 2 mwd_a30 rfl (x_in (by omega) (by omega)) dX12_put_179 (fun H locs hP hD hS => ?_)
                obtain ⟨f_40, ef_40⟩ : ∃ z9 : Nat → Int32, z9 = (upd f0 (Int32.toNatClampNeg i_36) k) := ⟨_, rfl⟩
                have hP : va_P D vwCl (mwd y ad zw (tI (sI (tJ (tJ (tJ (tJ (tI σ 49 f0) 50 f1) 51 f2) 52 f3) 53 f4) 47 i_36) 49 f_40)) H := by rw [ef_40]; exact x_trP hP mwd_s30
                have hD : va_D A (mwd y ad zw (tI (sI (tJ (tJ (tJ (tJ (tI σ 49 f0) 50 f1) 51 f2) 52 f3) 53 f4) 47 i_36) 49 f_40)) := by rw [ef_40]; exact x_trD hD mwd_s30
                have hvf_40 : bI f_40 0 7 := by rw [ef_40]; exact b_upd hf0 (by omega) (by omega)
                refine lv_aload_n hx hb dX12_put_180 rfl (lv_at hl 4 rfl) ?_
                refine va_get (D := D) (ci := 11) (v := .ref (ad 50)) (C := RX12) (T := TX12) (N := 85) hx hb hts inX12 hown hK hP 0 mwd_o0 rfl 50 (by decide) fl106 (fun _ h9 => h9) rfl dX12_put_181 ?_
                refine lv_aload_n hx hb dX12_put_184 rfl (lv_at hl 4 rfl) ?_
                refine va_get (D := D) (ci := 11) (v := .int i_36) (C := RX12) (T := TX12) (N := 85) hx hb hts inX12 hown hK hP 0 mwd_o0 rfl 47 (by decide) fl365 (fun _ h9 => h9) rfl dX12_put_185 ?_
                refine lv_aload_n hx hb dX12_put_188 rfl (lv_at hl 4 rfl) ?_
                refine va_get (D := D) (ci := 11) (v := .ref (ad 45)) (C := RX12) (T := TX12) (N := 85) hx hb hts inX12 hown hK hP 0 mwd_o0 rfl 45 (by decide) fl97 (fun _ h9 => h9) rfl dX12_put_189 ?_
                refine lv_iload_n hx hb dX12_put_192 rfl (lv_at hl 3 rfl) ?_
                refine va_lald hx hb hK hP 28 3 mwd_a28 rfl (x_in (by omega) (by omega)) dX12_put_193 ?_
                refine lv_topl (fun j_41 ej_41 => ?_)
                have ej_41 : j_41 = (σ.2.2.2 45) (Int32.toNatClampNeg k) := ej_41
                have bj_41 := b_atJ hB45 ej_41
                refine va_last hx hb hK hP hD hS 31 3 mwd_a31 rfl (x_in (by omega) (by omega)) dX12_put_194 (fun H locs hP hD hS => ?_)
                obtain ⟨f_42, ef_42⟩ : ∃ z9 : Nat → Int64, z9 = (vp_updL f1 (Int32.toNatClampNeg i_36) j_41) := ⟨_, rfl⟩
                have hP : va_P D vwCl (mwd y ad zw (tJ (tI (sI (tJ (tJ (tJ (tJ (tI σ 49 f0) 50 f1) 51 f2) 52 f3) 53 f4) 47 i_36) 49 f_40) 50 f_42)) H := by rw [ef_42]; exact x_trP hP mwd_s31
                have hD : va_D A (mwd y ad zw (tJ (tI (sI (tJ (tJ (tJ (tJ (tI σ 49 f0) 50 f1) 51 f2) 52 f3) 53 f4) 47 i_36) 49 f_40) 50 f_42)) := by rw [ef_42]; exact x_trD hD mwd_s31
                have hvf_42 : bJ f_42 (-1000000000) 1000000000 := by rw [ef_42]; exact b_updJ hf1 (by omega) (by omega)
                refine lv_aload_n hx hb dX12_put_195 rfl (lv_at hl 4 rfl) ?_
                refine va_get (D := D) (ci := 11) (v := .ref (ad 51)) (C := RX12) (T := TX12) (N := 85) hx hb hts inX12 hown hK hP 0 mwd_o0 rfl 51 (by decide) fl109 (fun _ h9 => h9) rfl dX12_put_196 ?_
                refine lv_aload_n hx hb dX12_put_199 rfl (lv_at hl 4 rfl) ?_
                refine va_get (D := D) (ci := 11) (v := .int i_36) (C := RX12) (T := TX12) (N := 85) hx hb hts inX12 hown hK hP 0 mwd_o0 rfl 47 (by decide) fl365 (fun _ h9 => h9) rfl dX12_put_200 ?_
                refine lv_aload_n hx hb dX12_put_203 rfl (lv_at hl 4 rfl) ?_
                refine va_get (D := D) (ci := 11) (v := .ref (ad 46)) (C := RX12) (T := TX12) (N := 85) hx hb hts inX12 hown hK hP 0 mwd_o0 rfl 46 (by decide) fl100 (fun _ h9 => h9) rfl dX12_put_204 ?_
                refine lv_iload_n hx hb dX12_put_207 rfl (lv_at hl 3 rfl) ?_
                refine va_lald hx hb hK hP 29 3 mwd_a29 rfl (x_in (by omega) (by omega)) dX12_put_208 ?_
                refine lv_topl (fun j_43 ej_43 => ?_)
                have ej_43 : j_43 = (σ.2.2.2 46) (Int32.toNatClampNeg k) := ej_43
                have bj_43 := b_atJ hB46 ej_43
                refine va_last hx hb hK hP hD hS 32 3 mwd_a32 rfl (x_in (by omega) (by omega)) dX12_put_209 (fun H locs hP hD hS => ?_)
                obtain ⟨f_44, ef_44⟩ : ∃ z9 : Nat → Int64, z9 = (vp_updL f2 (Int32.toNatClampNeg i_36) j_43) := ⟨_, rfl⟩
                have hP : va_P D vwCl (mwd y ad zw (tJ (tJ (tI (sI (tJ (tJ (tJ (tJ (tI σ 49 f0) 50 f1) 51 f2) 52 f3) 53 f4) 47 i_36) 49 f_40) 50 f_42) 51 f_44)) H := by rw [ef_44]; exact x_trP hP mwd_s32
                have hD : va_D A (mwd y ad zw (tJ (tJ (tI (sI (tJ (tJ (tJ (tJ (tI σ 49 f0) 50 f1) 51 f2) 52 f3) 53 f4) 47 i_36) 49 f_40) 50 f_42) 51 f_44)) := by rw [ef_44]; exact x_trD hD mwd_s32
                have hvf_44 : bJ f_44 0 1000000000 := by rw [ef_44]; exact b_updJ hf2 (by omega) (by omega)
                refine lv_aload_n hx hb dX12_put_210 rfl (lv_at hl 4 rfl) ?_
                refine va_get (D := D) (ci := 11) (v := .ref (ad 52)) (C := RX12) (T := TX12) (N := 85) hx hb hts inX12 hown hK hP 0 mwd_o0 rfl 52 (by decide) fl112 (fun _ h9 => h9) rfl dX12_put_211 ?_
                refine lv_aload_n hx hb dX12_put_214 rfl (lv_at hl 4 rfl) ?_
                refine va_get (D := D) (ci := 11) (v := .int i_36) (C := RX12) (T := TX12) (N := 85) hx hb hts inX12 hown hK hP 0 mwd_o0 rfl 47 (by decide) fl365 (fun _ h9 => h9) rfl dX12_put_215 ?_
                refine lv_iload_n hx hb dX12_put_218 rfl (lv_at hl 2 rfl) ?_
                refine lv_i2l hx hb dX12_put_219 rfl ?_
                refine lv_topl (fun j_45 ej_45 => ?_)
                have vj_45 : j_45.toInt = a.toInt := by rw [ej_45]; exact Int32.toInt_toInt64 _
                refine lv_lload hx hb dX12_put_220 (lv_at hl 0 rfl) ?_
                refine lv_ldiv hx hb dX12_put_222 (fun h9 => absurd (show r_39.toInt = 0 by rw [h9]; rfl) (by omega)) ?_
                refine lv_topl (fun j_46 ej_46 => ?_)
                have vj_46 := x_divL ej_46 (by omega)
                refine va_last hx hb hK hP hD hS 33 3 mwd_a33 rfl (x_in (by omega) (by omega)) dX12_put_223 (fun H locs hP hD hS => ?_)
                obtain ⟨f_47, ef_47⟩ : ∃ z9 : Nat → Int64, z9 = (vp_updL f3 (Int32.toNatClampNeg i_36) j_46) := ⟨_, rfl⟩
                have hP : va_P D vwCl (mwd y ad zw (tJ (tJ (tJ (tI (sI (tJ (tJ (tJ (tJ (tI σ 49 f0) 50 f1) 51 f2) 52 f3) 53 f4) 47 i_36) 49 f_40) 50 f_42) 51 f_44) 52 f_47)) H := by rw [ef_47]; exact x_trP hP mwd_s33
                have hD : va_D A (mwd y ad zw (tJ (tJ (tJ (tI (sI (tJ (tJ (tJ (tJ (tI σ 49 f0) 50 f1) 51 f2) 52 f3) 53 f4) 47 i_36) 49 f_40) 50 f_42) 51 f_44) 52 f_47)) := by rw [ef_47]; exact x_trD hD mwd_s33
                have hvf_47 : bJ f_47 (-1000000000) 1000000000 := by rw [ef_47]; exact b_updJ hf3 (by omega) (by omega)
                refine lv_aload_n hx hb dX12_put_224 rfl (lv_at hl 4 rfl) ?_
                refine va_get (D := D) (ci := 11) (v := .ref (ad 53)) (C := RX12) (T := TX12) (N := 85) hx hb hts inX12 hown hK hP 0 mwd_o0 rfl 53 (by decide) fl115 (fun _ h9 => h9) rfl dX12_put_225 ?_
                refine lv_aload_n hx hb dX12_put_228 rfl (lv_at hl 4 rfl) ?_
                refine va_get (D := D) (ci := 11) (v := .int i_36) (C := RX12) (T := TX12) (N := 85) hx hb hts inX12 hown hK hP 0 mwd_o0 rfl 47 (by decide) fl365 (fun _ h9 => h9) rfl dX12_put_229 ?_
                refine lv_iload_n hx hb dX12_put_232 rfl (lv_at hl 1 rfl) ?_
                refine lv_i2l hx hb dX12_put_233 rfl ?_
                refine lv_topl (fun j_48 ej_48 => ?_)
                have vj_48 : j_48.toInt = b.toInt := by rw [ej_48]; exact Int32.toInt_toInt64 _
                refine lv_lload hx hb dX12_put_234 (lv_at hl 0 rfl) ?_
                refine lv_ldiv hx hb dX12_put_236 (fun h9 => absurd (show r_39.toInt = 0 by rw [h9]; rfl) (by omega)) ?_
                refine lv_topl (fun j_49 ej_49 => ?_)
                have vj_49 := x_divL ej_49 (by omega)
                refine va_last hx hb hK hP hD hS 34 3 mwd_a34 rfl (x_in (by omega) (by omega)) dX12_put_237 (fun H locs hP hD hS => ?_)
                obtain ⟨f_50, ef_50⟩ : ∃ z9 : Nat → Int64, z9 = (vp_updL f4 (Int32.toNatClampNeg i_36) j_49) := ⟨_, rfl⟩
                have hP : va_P D vwCl (mwd y ad zw (tJ (tJ (tJ (tJ (tI (sI (tJ (tJ (tJ (tJ (tI σ 49 f0) 50 f1) 51 f2) 52 f3) 53 f4) 47 i_36) 49 f_40) 50 f_42) 51 f_44) 52 f_47) 53 f_50)) H := by rw [ef_50]; exact x_trP hP mwd_s34
                have hD : va_D A (mwd y ad zw (tJ (tJ (tJ (tJ (tI (sI (tJ (tJ (tJ (tJ (tI σ 49 f0) 50 f1) 51 f2) 52 f3) 53 f4) 47 i_36) 49 f_40) 50 f_42) 51 f_44) 52 f_47) 53 f_50)) := by rw [ef_50]; exact x_trD hD mwd_s34
                have hvf_50 : bJ f_50 0 1000000000 := by rw [ef_50]; exact b_updJ hf4 (by omega) (by omega)
                refine lv_aload_n hx hb dX12_put_238 rfl (lv_at hl 4 rfl) ?_
                refine va_get (D := D) (ci := 11) (v := .ref (ad 45)) (C := RX12) (T := TX12) (N := 85) hx hb hts inX12 hown hK hP 0 mwd_o0 rfl 45 (by decide) fl97 (fun _ h9 => h9) rfl dX12_put_239 ?_
                refine lv_iload_n hx hb dX12_put_242 rfl (lv_at hl 3 rfl) ?_
                refine lv_iload_n hx hb dX12_put_243 rfl (lv_at hl 2 rfl) ?_
                refine lv_i2l hx hb dX12_put_244 rfl ?_
                refine lv_topl (fun j_51 ej_51 => ?_)
                have vj_51 : j_51.toInt = a.toInt := by rw [ej_51]; exact Int32.toInt_toInt64 _
                refine lv_lload hx hb dX12_put_245 (lv_at hl 0 rfl) ?_
                refine lv_ldiv hx hb dX12_put_247 (fun h9 => absurd (show r_39.toInt = 0 by rw [h9]; rfl) (by omega)) ?_
                refine lv_topl (fun j_52 ej_52 => ?_)
                have vj_52 := x_divL ej_52 (by omega)
                refine va_last hx hb hK hP hD hS 28 3 mwd_a28 rfl (x_in (by omega) (by omega)) dX12_put_248 (fun H locs hP hD hS => ?_)
                obtain ⟨f_53, ef_53⟩ : ∃ z9 : Nat → Int64, z9 = (vp_updL (σ.2.2.2 45) (Int32.toNatClampNeg k) j_52) := ⟨_, rfl⟩
                have hP : va_P D vwCl (mwd y ad zw (tJ (tJ (tJ (tJ (tJ (tI (sI (tJ (tJ (tJ (tJ (tI σ 49 f0) 50 f1) 51 f2) 52 f3) 53 f4) 47 i_36) 49 f_40) 50 f_42) 51 f_44) 52 f_47) 53 f_50) 45 f_53)) H := by rw [ef_53]; exact x_trP hP mwd_s28
                have hD : va_D A (mwd y ad zw (tJ (tJ (tJ (tJ (tJ (tI (sI (tJ (tJ (tJ (tJ (tI σ 49 f0) 50 f1) 51 f2) 52 f3) 53 f4) 47 i_36) 49 f_40) 50 f_42) 51 f_44) 52 f_47) 53 f_50) 45 f_53)) := by rw [ef_53]; exact x_trD hD mwd_s28
                have hvf_53 : bJ f_53 (-1000000000) 1000000000 := by rw [ef_53]; exact b_updJ hB45 (by omega) (by omega)
                refine lv_aload_n hx hb dX12_put_249 rfl (lv_at hl 4 rfl) ?_
                refine va_get (D := D) (ci := 11) (v := .ref (ad 46)) (C := RX12) (T := TX12) (N := 85) hx hb hts inX12 hown hK hP 0 mwd_o0 rfl 46 (by decide) fl100 (fun _ h9 => h9) rfl dX12_put_250 ?_
                refine lv_iload_n hx hb dX12_put_253 rfl (lv_at hl 3 rfl) ?_
                refine lv_iload_n hx hb dX12_put_254 rfl (lv_at hl 1 rfl) ?_
                refine lv_i2l hx hb dX12_put_255 rfl ?_
                refine lv_topl (fun j_54 ej_54 => ?_)
                have vj_54 : j_54.toInt = b.toInt := by rw [ej_54]; exact Int32.toInt_toInt64 _
                refine lv_lload hx hb dX12_put_256 (lv_at hl 0 rfl) ?_
                refine lv_ldiv hx hb dX12_put_258 (fun h9 => absurd (show r_39.toInt = 0 by rw [h9]; rfl) (by omega)) ?_
                refine lv_topl (fun j_55 ej_55 => ?_)
                have vj_55 := x_divL ej_55 (by omega)
                refine va_last hx hb hK hP hD hS 29 3 mwd_a29 rfl (x_in (by omega) (by omega)) dX12_put_259 (fun H locs hP hD hS => ?_)
                obtain ⟨f_56, ef_56⟩ : ∃ z9 : Nat → Int64, z9 = (vp_updL (σ.2.2.2 46) (Int32.toNatClampNeg k) j_55) := ⟨_, rfl⟩
                have hP : va_P D vwCl (mwd y ad zw (tJ (tJ (tJ (tJ (tJ (tJ (tI (sI (tJ (tJ (tJ (tJ (tI σ 49 f0) 50 f1) 51 f2) 52 f3) 53 f4) 47 i_36) 49 f_40) 50 f_42) 51 f_44) 52 f_47) 53 f_50) 45 f_53) 46 f_56)) H := by rw [ef_56]; exact x_trP hP mwd_s29
                have hD : va_D A (mwd y ad zw (tJ (tJ (tJ (tJ (tJ (tJ (tI (sI (tJ (tJ (tJ (tJ (tI σ 49 f0) 50 f1) 51 f2) 52 f3) 53 f4) 47 i_36) 49 f_40) 50 f_42) 51 f_44) 52 f_47) 53 f_50) 45 f_53) 46 f_56)) := by rw [ef_56]; exact x_trD hD mwd_s29
                have hvf_56 : bJ f_56 0 1000000000 := by rw [ef_56]; exact b_updJ hB46 (by omega) (by omega)
                refine lv_aload_n hx hb dX12_put_260 rfl (lv_at hl 4 rfl) ?_
                refine lv_dup hx hb dX12_put_261 rfl ?_
                refine va_get (D := D) (ci := 11) (v := .int i_36) (C := RX12) (T := TX12) (N := 85) hx hb hts inX12 hown hK hP 0 mwd_o0 rfl 47 (by decide) fl365 (fun _ h9 => h9) rfl dX12_put_262 ?_
                refine lv_iconst (v := 1) hx hb dX12_put_265 (by decide) ?_
                refine lv_iadd hx hb dX12_put_266 ?_
                refine lv_topi (fun i_57 ei_57 => ?_)
                have vi_57 : i_57.toInt = i_36.toInt + 1 := by have h9 := x_add ei_57 (by omega) (by omega); omega
                refine va_put (D := D) (ci := 11) (v := .int i_57) (ty := .int) (C := RX12) (T := TX12) (N := 85) hx hb hts inX12 tyX12 tyX12_ok nmX12 hown hK hP hD hS 0 mwd_o0 rfl 47 (by decide) fl365 (fun _ h9 => h9) rfl (by decide +kernel) rfl rfl (Nat.le_of_ble_eq_true rfl) dX12_put_267 (fun H locs hP hD hS => ?_)
                have hP : va_P D vwCl (mwd y ad zw (sI (tJ (tJ (tJ (tJ (tJ (tJ (tI (sI (tJ (tJ (tJ (tJ (tI σ 49 f0) 50 f1) 51 f2) 52 f3) 53 f4) 47 i_36) 49 f_40) 50 f_42) 51 f_44) 52 f_47) 53 f_50) 45 f_53) 46 f_56) 47 i_57)) H := x_trP hP mwd_p0_47
                have hD : va_D A (mwd y ad zw (sI (tJ (tJ (tJ (tJ (tJ (tJ (tI (sI (tJ (tJ (tJ (tJ (tI σ 49 f0) 50 f1) 51 f2) 52 f3) 53 f4) 47 i_36) 49 f_40) 50 f_42) 51 f_44) 52 f_47) 53 f_50) 45 f_53) 46 f_56) 47 i_57)) := x_trD hD mwd_p0_47
                refine lv_aload_n hx hb dX12_put_270 rfl (lv_at hl 4 rfl) ?_
                refine lv_aload_n hx hb dX12_put_271 rfl (lv_at hl 4 rfl) ?_
                refine va_get (D := D) (ci := 11) (v := .int i_57) (C := RX12) (T := TX12) (N := 85) hx hb hts inX12 hown hK hP 0 mwd_o0 rfl 47 (by decide) fl365 (fun _ h9 => h9) rfl dX12_put_272 ?_
                refine va_put (D := D) (ci := 11) (v := .int i_57) (ty := .int) (C := RX12) (T := TX12) (N := 85) hx hb hts inX12 tyX12 tyX12_ok nmX12 hown hK hP hD hS 0 mwd_o0 rfl 48 (by decide) fl368 (fun _ h9 => h9) rfl (by decide +kernel) rfl rfl (Nat.le_of_ble_eq_true rfl) dX12_put_275 (fun H locs hP hD hS => ?_)
                have hP : va_P D vwCl (mwd y ad zw (sI (sI (tJ (tJ (tJ (tJ (tJ (tJ (tI (sI (tJ (tJ (tJ (tJ (tI σ 49 f0) 50 f1) 51 f2) 52 f3) 53 f4) 47 i_36) 49 f_40) 50 f_42) 51 f_44) 52 f_47) 53 f_50) 45 f_53) 46 f_56) 47 i_57) 48 i_57)) H := x_trP hP mwd_p0_48
                have hD : va_D A (mwd y ad zw (sI (sI (tJ (tJ (tJ (tJ (tJ (tJ (tI (sI (tJ (tJ (tJ (tJ (tI σ 49 f0) 50 f1) 51 f2) 52 f3) 53 f4) 47 i_36) 49 f_40) 50 f_42) 51 f_44) 52 f_47) 53 f_50) 45 f_53) 46 f_56) 47 i_57) 48 i_57)) := x_trD hD mwd_p0_48
                refine lv_iconst (v := 1) hx hb dX12_put_278 (by decide) ?_
                have hP : va_P D vwCl (mwd y ad zw (tJ (tJ (tJ (tJ (tJ (tJ (tI (sI (sI σ 47 i_57) 48 i_57) 49 f_40) 50 f_42) 51 f_44) 52 f_47) 53 f_50) 45 f_53) 46 f_56)) H := hP
                have hD : va_D A (mwd y ad zw (tJ (tJ (tJ (tJ (tJ (tJ (tI (sI (sI σ 47 i_57) 48 i_57) 49 f_40) 50 f_42) 51 f_44) 52 f_47) 53 f_50) 45 f_53) 46 f_56)) := hD
                exact x_zretW (v := 1) (u := (i_57, i_57, f_40, f_42, f_44, f_47, f_50, f_53, f_56)) hx hb hr hQ rfl (by (try dsimp only); exact ⟨⟨by omega, by omega, by omega⟩, hvf_40, hvf_42, hvf_44, hvf_47, hvf_50, hvf_53, hvf_56⟩) hP hD hK hS dX12_put_279 hlocks
              · have kc_35 : j.toInt < 40 := by have h9 := c_35; simp only [ge_iff_le, gt_iff_lt, x_lt, x_le, x_eq, ne_eq, Int32.not_lt, Int32.not_le] at h9; simp only [Int32.reduceToInt] at h9; omega
                refine lv_aload_n hx hb dX12_put_65 rfl (lv_at hl 4 rfl) ?_
                refine va_get (D := D) (ci := 11) (v := .ref (ad 49)) (C := RX12) (T := TX12) (N := 85) hx hb hts inX12 hown hK hP 0 mwd_o0 rfl 49 (by decide) fl103 (fun _ h9 => h9) rfl dX12_put_66 ?_
                refine lv_iload hx hb dX12_put_69 (lv_at hl 0 rfl) ?_
                refine lv_iconst (v := 1) hx hb dX12_put_71 (by decide) ?_
                refine lv_isub hx hb dX12_put_72 ?_
                refine lv_topi (fun i_58 ei_58 => ?_)
                have vi_58 : i_58.toInt = j.toInt - 1 := by have h9 := x_sub ei_58 (by omega) (by omega); omega
                refine lv_aload_n hx hb dX12_put_73 rfl (lv_at hl 4 rfl) ?_
                refine va_get (D := D) (ci := 11) (v := .ref (ad 49)) (C := RX12) (T := TX12) (N := 85) hx hb hts inX12 hown hK hP 0 mwd_o0 rfl 49 (by decide) fl103 (fun _ h9 => h9) rfl dX12_put_74 ?_
                refine lv_iload hx hb dX12_put_77 (lv_at hl 0 rfl) ?_
                refine va_iald hx hb hK hP 30 2 mwd_a30 rfl (x_in (by omega) (by omega)) dX12_put_79 ?_
                refine lv_topi (fun i_59 ei_59 => ?_)
                have ei_59 : i_59 = f0 (Int32.toNatClampNeg j) := ei_59
                have bi_59 := b_at hf0 ei_59
                refine va_iast hx hb hK hP hD hS 30 2 mwd_a30 rfl (x_in (by omega) (by omega)) dX12_put_80 (fun H locs hP hD hS => ?_)
                obtain ⟨f_60, ef_60⟩ : ∃ z9 : Nat → Int32, z9 = (upd f0 (Int32.toNatClampNeg i_58) i_59) := ⟨_, rfl⟩
                have hP : va_P D vwCl (mwd y ad zw (tI (tJ (tJ (tJ (tJ (tI σ 49 f0) 50 f1) 51 f2) 52 f3) 53 f4) 49 f_60)) H := by rw [ef_60]; exact x_trP hP mwd_s30
                have hD : va_D A (mwd y ad zw (tI (tJ (tJ (tJ (tJ (tI σ 49 f0) 50 f1) 51 f2) 52 f3) 53 f4) 49 f_60)) := by rw [ef_60]; exact x_trD hD mwd_s30
                have hvf_60 : bI f_60 0 7 := by rw [ef_60]; exact b_upd hf0 (by omega) (by omega)
                refine lv_aload_n hx hb dX12_put_81 rfl (lv_at hl 4 rfl) ?_
                refine va_get (D := D) (ci := 11) (v := .ref (ad 50)) (C := RX12) (T := TX12) (N := 85) hx hb hts inX12 hown hK hP 0 mwd_o0 rfl 50 (by decide) fl106 (fun _ h9 => h9) rfl dX12_put_82 ?_
                refine lv_iload hx hb dX12_put_85 (lv_at hl 0 rfl) ?_
                refine lv_iconst (v := 1) hx hb dX12_put_87 (by decide) ?_
                refine lv_isub hx hb dX12_put_88 ?_
                refine lv_topi (fun i_61 ei_61 => ?_)
                have vi_61 : i_61.toInt = j.toInt - 1 := by have h9 := x_sub ei_61 (by omega) (by omega); omega
                refine lv_aload_n hx hb dX12_put_89 rfl (lv_at hl 4 rfl) ?_
                refine va_get (D := D) (ci := 11) (v := .ref (ad 50)) (C := RX12) (T := TX12) (N := 85) hx hb hts inX12 hown hK hP 0 mwd_o0 rfl 50 (by decide) fl106 (fun _ h9 => h9) rfl dX12_put_90 ?_
                refine lv_iload hx hb dX12_put_93 (lv_at hl 0 rfl) ?_
                refine va_lald hx hb hK hP 31 3 mwd_a31 rfl (x_in (by omega) (by omega)) dX12_put_95 ?_
                refine lv_topl (fun j_62 ej_62 => ?_)
                have ej_62 : j_62 = f1 (Int32.toNatClampNeg j) := ej_62
                have bj_62 := b_atJ hf1 ej_62
                refine va_last hx hb hK hP hD hS 31 3 mwd_a31 rfl (x_in (by omega) (by omega)) dX12_put_96 (fun H locs hP hD hS => ?_)
                obtain ⟨f_63, ef_63⟩ : ∃ z9 : Nat → Int64, z9 = (vp_updL f1 (Int32.toNatClampNeg i_61) j_62) := ⟨_, rfl⟩
                have hP : va_P D vwCl (mwd y ad zw (tJ (tI (tJ (tJ (tJ (tJ (tI σ 49 f0) 50 f1) 51 f2) 52 f3) 53 f4) 49 f_60) 50 f_63)) H := by rw [ef_63]; exact x_trP hP mwd_s31
                have hD : va_D A (mwd y ad zw (tJ (tI (tJ (tJ (tJ (tJ (tI σ 49 f0) 50 f1) 51 f2) 52 f3) 53 f4) 49 f_60) 50 f_63)) := by rw [ef_63]; exact x_trD hD mwd_s31
                have hvf_63 : bJ f_63 (-1000000000) 1000000000 := by rw [ef_63]; exact b_updJ hf1 (by omega) (by omega)
                refine lv_aload_n hx hb dX12_put_97 rfl (lv_at hl 4 rfl) ?_
                refine va_get (D := D) (ci := 11) (v := .ref (ad 51)) (C := RX12) (T := TX12) (N := 85) hx hb hts inX12 hown hK hP 0 mwd_o0 rfl 51 (by decide) fl109 (fun _ h9 => h9) rfl dX12_put_98 ?_
                refine lv_iload hx hb dX12_put_101 (lv_at hl 0 rfl) ?_
                refine lv_iconst (v := 1) hx hb dX12_put_103 (by decide) ?_
                refine lv_isub hx hb dX12_put_104 ?_
                refine lv_topi (fun i_64 ei_64 => ?_)
                have vi_64 : i_64.toInt = j.toInt - 1 := by have h9 := x_sub ei_64 (by omega) (by omega); omega
                refine lv_aload_n hx hb dX12_put_105 rfl (lv_at hl 4 rfl) ?_
                refine va_get (D := D) (ci := 11) (v := .ref (ad 51)) (C := RX12) (T := TX12) (N := 85) hx hb hts inX12 hown hK hP 0 mwd_o0 rfl 51 (by decide) fl109 (fun _ h9 => h9) rfl dX12_put_106 ?_
                refine lv_iload hx hb dX12_put_109 (lv_at hl 0 rfl) ?_
                refine va_lald hx hb hK hP 32 3 mwd_a32 rfl (x_in (by omega) (by omega)) dX12_put_111 ?_
                refine lv_topl (fun j_65 ej_65 => ?_)
                have ej_65 : j_65 = f2 (Int32.toNatClampNeg j) := ej_65
                have bj_65 := b_atJ hf2 ej_65
                refine va_last hx hb hK hP hD hS 32 3 mwd_a32 rfl (x_in (by omega) (by omega)) dX12_put_112 (fun H locs hP hD hS => ?_)
                obtain ⟨f_66, ef_66⟩ : ∃ z9 : Nat → Int64, z9 = (vp_updL f2 (Int32.toNatClampNeg i_64) j_65) := ⟨_, rfl⟩
                have hP : va_P D vwCl (mwd y ad zw (tJ (tJ (tI (tJ (tJ (tJ (tJ (tI σ 49 f0) 50 f1) 51 f2) 52 f3) 53 f4) 49 f_60) 50 f_63) 51 f_66)) H := by rw [ef_66]; exact x_trP hP mwd_s32
                have hD : va_D A (mwd y ad zw (tJ (tJ (tI (tJ (tJ (tJ (tJ (tI σ 49 f0) 50 f1) 51 f2) 52 f3) 53 f4) 49 f_60) 50 f_63) 51 f_66)) := by rw [ef_66]; exact x_trD hD mwd_s32
                have hvf_66 : bJ f_66 0 1000000000 := by rw [ef_66]; exact b_updJ hf2 (by omega) (by omega)
                refine lv_aload_n hx hb dX12_put_113 rfl (lv_at hl 4 rfl) ?_
                refine va_get (D := D) (ci := 11) (v := .ref (ad 52)) (C := RX12) (T := TX12) (N := 85) hx hb hts inX12 hown hK hP 0 mwd_o0 rfl 52 (by decide) fl112 (fun _ h9 => h9) rfl dX12_put_114 ?_
                refine lv_iload hx hb dX12_put_117 (lv_at hl 0 rfl) ?_
                refine lv_iconst (v := 1) hx hb dX12_put_119 (by decide) ?_
                refine lv_isub hx hb dX12_put_120 ?_
                refine lv_topi (fun i_67 ei_67 => ?_)
                have vi_67 : i_67.toInt = j.toInt - 1 := by have h9 := x_sub ei_67 (by omega) (by omega); omega
                refine lv_aload_n hx hb dX12_put_121 rfl (lv_at hl 4 rfl) ?_
                refine va_get (D := D) (ci := 11) (v := .ref (ad 52)) (C := RX12) (T := TX12) (N := 85) hx hb hts inX12 hown hK hP 0 mwd_o0 rfl 52 (by decide) fl112 (fun _ h9 => h9) rfl dX12_put_122 ?_
                refine lv_iload hx hb dX12_put_125 (lv_at hl 0 rfl) ?_
                refine va_lald hx hb hK hP 33 3 mwd_a33 rfl (x_in (by omega) (by omega)) dX12_put_127 ?_
                refine lv_topl (fun j_68 ej_68 => ?_)
                have ej_68 : j_68 = f3 (Int32.toNatClampNeg j) := ej_68
                have bj_68 := b_atJ hf3 ej_68
                refine va_last hx hb hK hP hD hS 33 3 mwd_a33 rfl (x_in (by omega) (by omega)) dX12_put_128 (fun H locs hP hD hS => ?_)
                obtain ⟨f_69, ef_69⟩ : ∃ z9 : Nat → Int64, z9 = (vp_updL f3 (Int32.toNatClampNeg i_67) j_68) := ⟨_, rfl⟩
                have hP : va_P D vwCl (mwd y ad zw (tJ (tJ (tJ (tI (tJ (tJ (tJ (tJ (tI σ 49 f0) 50 f1) 51 f2) 52 f3) 53 f4) 49 f_60) 50 f_63) 51 f_66) 52 f_69)) H := by rw [ef_69]; exact x_trP hP mwd_s33
                have hD : va_D A (mwd y ad zw (tJ (tJ (tJ (tI (tJ (tJ (tJ (tJ (tI σ 49 f0) 50 f1) 51 f2) 52 f3) 53 f4) 49 f_60) 50 f_63) 51 f_66) 52 f_69)) := by rw [ef_69]; exact x_trD hD mwd_s33
                have hvf_69 : bJ f_69 (-1000000000) 1000000000 := by rw [ef_69]; exact b_updJ hf3 (by omega) (by omega)
                refine lv_aload_n hx hb dX12_put_129 rfl (lv_at hl 4 rfl) ?_
                refine va_get (D := D) (ci := 11) (v := .ref (ad 53)) (C := RX12) (T := TX12) (N := 85) hx hb hts inX12 hown hK hP 0 mwd_o0 rfl 53 (by decide) fl115 (fun _ h9 => h9) rfl dX12_put_130 ?_
                refine lv_iload hx hb dX12_put_133 (lv_at hl 0 rfl) ?_
                refine lv_iconst (v := 1) hx hb dX12_put_135 (by decide) ?_
                refine lv_isub hx hb dX12_put_136 ?_
                refine lv_topi (fun i_70 ei_70 => ?_)
                have vi_70 : i_70.toInt = j.toInt - 1 := by have h9 := x_sub ei_70 (by omega) (by omega); omega
                refine lv_aload_n hx hb dX12_put_137 rfl (lv_at hl 4 rfl) ?_
                refine va_get (D := D) (ci := 11) (v := .ref (ad 53)) (C := RX12) (T := TX12) (N := 85) hx hb hts inX12 hown hK hP 0 mwd_o0 rfl 53 (by decide) fl115 (fun _ h9 => h9) rfl dX12_put_138 ?_
                refine lv_iload hx hb dX12_put_141 (lv_at hl 0 rfl) ?_
                refine va_lald hx hb hK hP 34 3 mwd_a34 rfl (x_in (by omega) (by omega)) dX12_put_143 ?_
                refine lv_topl (fun j_71 ej_71 => ?_)
                have ej_71 : j_71 = f4 (Int32.toNatClampNeg j) := ej_71
                have bj_71 := b_atJ hf4 ej_71
                refine va_last hx hb hK hP hD hS 34 3 mwd_a34 rfl (x_in (by omega) (by omega)) dX12_put_144 (fun H locs hP hD hS => ?_)
                obtain ⟨f_72, ef_72⟩ : ∃ z9 : Nat → Int64, z9 = (vp_updL f4 (Int32.toNatClampNeg i_70) j_71) := ⟨_, rfl⟩
                have hP : va_P D vwCl (mwd y ad zw (tJ (tJ (tJ (tJ (tI (tJ (tJ (tJ (tJ (tI σ 49 f0) 50 f1) 51 f2) 52 f3) 53 f4) 49 f_60) 50 f_63) 51 f_66) 52 f_69) 53 f_72)) H := by rw [ef_72]; exact x_trP hP mwd_s34
                have hD : va_D A (mwd y ad zw (tJ (tJ (tJ (tJ (tI (tJ (tJ (tJ (tJ (tI σ 49 f0) 50 f1) 51 f2) 52 f3) 53 f4) 49 f_60) 50 f_63) 51 f_66) 52 f_69) 53 f_72)) := by rw [ef_72]; exact x_trD hD mwd_s34
                have hvf_72 : bJ f_72 0 1000000000 := by rw [ef_72]; exact b_updJ hf4 (by omega) (by omega)
                obtain ⟨i_73, ei_73⟩ : ∃ z9 : Int32, z9 = j + 1 := ⟨_, rfl⟩
                have vi_73 : i_73.toInt = j.toInt + 1 := by have h9 := x_add ei_73 (by omega) (by omega); omega
                refine lv_iinc (v := i_73) (lv' := [(4, .int i_73), (3, .int b), (2, .int a), (1, .int k), (0, .ref (ad 1))]) hx hb dX12_put_145 hl (k := 0) rfl (by rw [ei_73]; rfl) (by decide) rfl (fun ls hl => ?_)
                refine lv_goto (tgt := 58) hx hb dX12_put_148 (by decide) ?_
                have hP : va_P D vwCl (mwd y ad zw (tJ (tJ (tJ (tJ (tI σ 49 f_60) 50 f_63) 51 f_66) 52 f_69) 53 f_72)) H := hP
                have hD : va_D A (mwd y ad zw (tJ (tJ (tJ (tJ (tI σ 49 f_60) 50 f_63) 51 f_66) 52 f_69) 53 f_72)) := hD
                exact ih_loop i_73 f_60 f_63 f_66 f_69 f_72 H locs ls (by omega) (by omega) hvf_60 hvf_63 hvf_66 hvf_69 hvf_72 (by omega) hP hD hS (lv_sub hl [0, 1, 2, 3, 4] rfl)
          exact loop 41 1 (σ.2.2.1 49) (σ.2.2.2 50) (σ.2.2.2 51) (σ.2.2.2 52) (σ.2.2.2 53) H locs ls (by decide) (by decide) hB49 hB50 hB51 hB52 hB53 (by omega) hP hD hS (lv_sub hl [0, 4, 3, 2, 1] rfl)
      · have kc_12 : r_11.toInt = 0 := by have h9 := c_12; simp only [ge_iff_le, gt_iff_lt, x_lt, x_le, x_eq, ne_eq, Int32.not_lt, Int32.not_le] at h9; simp only [Int32.reduceToInt] at h9; omega
        refine lv_iconst (v := 0) hx hb dX12_put_44 (by decide) ?_
        have hP : va_P D vwCl (mwd y ad zw (tJ (tJ (tJ (tJ (tJ (tJ (tI (sI (sI σ 47 (σ.1 47)) 48 (σ.1 48)) 49 (σ.2.2.1 49)) 50 (σ.2.2.2 50)) 51 (σ.2.2.2 51)) 52 (σ.2.2.2 52)) 53 (σ.2.2.2 53)) 45 (σ.2.2.2 45)) 46 (σ.2.2.2 46))) H := hP
        have hD : va_D A (mwd y ad zw (tJ (tJ (tJ (tJ (tJ (tJ (tI (sI (sI σ 47 (σ.1 47)) 48 (σ.1 48)) 49 (σ.2.2.1 49)) 50 (σ.2.2.2 50)) 51 (σ.2.2.2 51)) 52 (σ.2.2.2 52)) 53 (σ.2.2.2 53)) 45 (σ.2.2.2 45)) 46 (σ.2.2.2 46))) := hD
        exact x_zretW (v := 0) (u := ((σ.1 47), (σ.1 48), (σ.2.2.1 49), (σ.2.2.2 50), (σ.2.2.2 51), (σ.2.2.2 52), (σ.2.2.2 53), (σ.2.2.2 45), (σ.2.2.2 46))) hx hb hr hQ rfl (by (try dsimp only); exact ⟨⟨by omega, by omega, by omega⟩, hB49, hB50, hB51, hB52, hB53, hB45, hB46⟩) hP hD hK hS dX12_put_45 hlocks

def v_q_undo : List Cond := .code yX12_undo cX12_undo 1 (some .boolean) :: ([.fieldLink RX12 365 "SlopeRunnerModel" "done" "I", .fieldLink RX12 97 "SlopeRunnerModel" "putAbove" "[J", .fieldLink RX12 103 "SlopeRunnerModel" "doneInput" "[I", .fieldLink RX12 106 "SlopeRunnerModel" "wasAbove" "[J", .fieldLink RX12 100 "SlopeRunnerModel" "putBelow" "[J", .fieldLink RX12 109 "SlopeRunnerModel" "wasBelow" "[J"] ++ wsX120)
set_option maxHeartbeats 4000000 in
set_option maxRecDepth 100000 in
theorem q_undo (l : Launch) (D : va_G) (y : Nat → ClassId) (sz : Nat) (ad : Nat → Nat) (zw : Nat → Nat → Int32) (σ : OS) (hd0 : 0 ≤ (σ.1 47).toInt) (hd1 : (σ.1 47).toInt ≤ (σ.1 48).toInt) (hd2 : (σ.1 48).toInt ≤ 40) (hB49 : bI (σ.2.2.1 49) 0 7) (hB50 : bJ (σ.2.2.2 50) (-1000000000) 1000000000) (hB51 : bJ (σ.2.2.2 51) 0 1000000000) (hB52 : bJ (σ.2.2.2 52) (-1000000000) 1000000000) (hB53 : bJ (σ.2.2.2 53) 0 1000000000) (hB45 : bJ (σ.2.2.2 45) (-1000000000) 1000000000) (hB46 : bJ (σ.2.2.2 46) 0 1000000000) : Met l yX12_undo v_q_undo ({ frames := 0, cells := 0, slots := 0, locals := 0 } : Room) (va_Pc [.ref (ad 1)] (xPre D (xT y) (mwd y ad zw σ) sz)) (va_Qi (fun (r : Int32) (u : Int32 × (Nat → Int64) × (Nat → Int64)) => (0 ≤ u.1.toInt ∧ u.1.toInt ≤ (σ.1 48).toInt) ∧ bJ u.2.1 (-1000000000) 1000000000 ∧ bJ u.2.2 0 1000000000) (fun (u : Int32 × (Nat → Int64) × (Nat → Int64)) => xB D (xT y) (va_A (mwd y ad zw σ) sz) (mwd y ad zw (tJ (tJ (sI σ 47 u.1) 45 u.2.1) 46 u.2.2))) (va_A (mwd y ad zw σ) sz)) 0 0 (va_A (mwd y ad zw σ) sz) := by
  refine x_meti (cc := cX12_undo) (maxL := 1) (by decide) rfl (Nat.le_of_ble_eq_true rfl) ?_
  intro p e s m below meth c A H locs Q hx hb hml hown hts hr hlocks hmn hA hP hK hD hS ls hl hQ
  have hl : lv_has ls 1 [(0, .ref (ad 1))] := hl
  have fl365 := hts (.fieldLink RX12 365 "SlopeRunnerModel" "done" "I") (List.mem_of_getElem? (i := 1) rfl)
  have inX12 : ∀ w ∈ wsX120, w ∈ v_q_undo := (fun w h => List.mem_cons_of_mem _ (List.mem_append_right _ h))
  have kk_0 : (0 : Int32).toInt = 0 := rfl
  have kk_1 : (1 : Int32).toInt = 1 := rfl
  have fl97 := hts (.fieldLink RX12 97 "SlopeRunnerModel" "putAbove" "[J") (List.mem_of_getElem? (i := 2) rfl)
  have fl103 := hts (.fieldLink RX12 103 "SlopeRunnerModel" "doneInput" "[I") (List.mem_of_getElem? (i := 3) rfl)
  have fl106 := hts (.fieldLink RX12 106 "SlopeRunnerModel" "wasAbove" "[J") (List.mem_of_getElem? (i := 4) rfl)
  have fl100 := hts (.fieldLink RX12 100 "SlopeRunnerModel" "putBelow" "[J") (List.mem_of_getElem? (i := 5) rfl)
  have fl109 := hts (.fieldLink RX12 109 "SlopeRunnerModel" "wasBelow" "[J") (List.mem_of_getElem? (i := 6) rfl)
  refine lv_aload_n hx hb dX12_undo_0 rfl (lv_at hl 0 rfl) ?_
  refine va_get (D := D) (ci := 11) (v := .int (σ.1 47)) (C := RX12) (T := TX12) (N := 85) hx hb hts inX12 hown hK hP 0 mwd_o0 rfl 47 (by decide) fl365 (fun _ h9 => h9) rfl dX12_undo_1 ?_
  refine lv_if_ne (tgt := 9) hx hb dX12_undo_4 (by decide) (fun c_1 => ?_) (fun c_1 => ?_)
  · have kc_1 : (σ.1 47).toInt ≠ 0 := by have h9 := c_1; simp only [ge_iff_le, gt_iff_lt, x_lt, x_le, x_eq, ne_eq, Int32.not_lt, Int32.not_le] at h9; simp only [Int32.reduceToInt] at h9; omega
    refine lv_aload_n hx hb dX12_undo_9 rfl (lv_at hl 0 rfl) ?_
    refine lv_dup hx hb dX12_undo_10 rfl ?_
    refine va_get (D := D) (ci := 11) (v := .int (σ.1 47)) (C := RX12) (T := TX12) (N := 85) hx hb hts inX12 hown hK hP 0 mwd_o0 rfl 47 (by decide) fl365 (fun _ h9 => h9) rfl dX12_undo_11 ?_
    refine lv_iconst (v := 1) hx hb dX12_undo_14 (by decide) ?_
    refine lv_isub hx hb dX12_undo_15 ?_
    refine lv_topi (fun i_2 ei_2 => ?_)
    have vi_2 : i_2.toInt = (σ.1 47).toInt - 1 := by have h9 := x_sub ei_2 (by omega) (by omega); omega
    refine va_put (D := D) (ci := 11) (v := .int i_2) (ty := .int) (C := RX12) (T := TX12) (N := 85) hx hb hts inX12 tyX12 tyX12_ok nmX12 hown hK hP hD hS 0 mwd_o0 rfl 47 (by decide) fl365 (fun _ h9 => h9) rfl (by decide +kernel) rfl rfl (Nat.le_of_ble_eq_true rfl) dX12_undo_16 (fun H locs hP hD hS => ?_)
    have hP : va_P D vwCl (mwd y ad zw (sI σ 47 i_2)) H := x_trP hP mwd_p0_47
    have hD : va_D A (mwd y ad zw (sI σ 47 i_2)) := x_trD hD mwd_p0_47
    refine lv_aload_n hx hb dX12_undo_19 rfl (lv_at hl 0 rfl) ?_
    refine va_get (D := D) (ci := 11) (v := .ref (ad 45)) (C := RX12) (T := TX12) (N := 85) hx hb hts inX12 hown hK hP 0 mwd_o0 rfl 45 (by decide) fl97 (fun _ h9 => h9) rfl dX12_undo_20 ?_
    refine lv_aload_n hx hb dX12_undo_23 rfl (lv_at hl 0 rfl) ?_
    refine va_get (D := D) (ci := 11) (v := .ref (ad 49)) (C := RX12) (T := TX12) (N := 85) hx hb hts inX12 hown hK hP 0 mwd_o0 rfl 49 (by decide) fl103 (fun _ h9 => h9) rfl dX12_undo_24 ?_
    refine lv_aload_n hx hb dX12_undo_27 rfl (lv_at hl 0 rfl) ?_
    refine va_get (D := D) (ci := 11) (v := .int i_2) (C := RX12) (T := TX12) (N := 85) hx hb hts inX12 hown hK hP 0 mwd_o0 rfl 47 (by decide) fl365 (fun _ h9 => h9) rfl dX12_undo_28 ?_
    refine va_iald hx hb hK hP 30 2 mwd_a30 rfl (x_in (by omega) (by omega)) dX12_undo_31 ?_
    refine lv_topi (fun i_3 ei_3 => ?_)
    have ei_3 : i_3 = (σ.2.2.1 49) (Int32.toNatClampNeg i_2) := ei_3
    have bi_3 := b_at hB49 ei_3
    refine lv_aload_n hx hb dX12_undo_32 rfl (lv_at hl 0 rfl) ?_
    refine va_get (D := D) (ci := 11) (v := .ref (ad 50)) (C := RX12) (T := TX12) (N := 85) hx hb hts inX12 hown hK hP 0 mwd_o0 rfl 50 (by decide) fl106 (fun _ h9 => h9) rfl dX12_undo_33 ?_
    refine lv_aload_n hx hb dX12_undo_36 rfl (lv_at hl 0 rfl) ?_
    refine va_get (D := D) (ci := 11) (v := .int i_2) (C := RX12) (T := TX12) (N := 85) hx hb hts inX12 hown hK hP 0 mwd_o0 rfl 47 (by decide) fl365 (fun _ h9 => h9) rfl dX12_undo_37 ?_
    refine va_lald hx hb hK hP 31 3 mwd_a31 rfl (x_in (by omega) (by omega)) dX12_undo_40 ?_
    refine lv_topl (fun j_4 ej_4 => ?_)
    have ej_4 : j_4 = (σ.2.2.2 50) (Int32.toNatClampNeg i_2) := ej_4
    have bj_4 := b_atJ hB50 ej_4
    refine va_last hx hb hK hP hD hS 28 3 mwd_a28 rfl (x_in (by omega) (by omega)) dX12_undo_41 (fun H locs hP hD hS => ?_)
    obtain ⟨f_5, ef_5⟩ : ∃ z9 : Nat → Int64, z9 = (vp_updL (σ.2.2.2 45) (Int32.toNatClampNeg i_3) j_4) := ⟨_, rfl⟩
    have hP : va_P D vwCl (mwd y ad zw (tJ (sI σ 47 i_2) 45 f_5)) H := by rw [ef_5]; exact x_trP hP mwd_s28
    have hD : va_D A (mwd y ad zw (tJ (sI σ 47 i_2) 45 f_5)) := by rw [ef_5]; exact x_trD hD mwd_s28
    have hvf_5 : bJ f_5 (-1000000000) 1000000000 := by rw [ef_5]; exact b_updJ hB45 (by omega) (by omega)
    refine lv_aload_n hx hb dX12_undo_42 rfl (lv_at hl 0 rfl) ?_
    refine va_get (D := D) (ci := 11) (v := .ref (ad 46)) (C := RX12) (T := TX12) (N := 85) hx hb hts inX12 hown hK hP 0 mwd_o0 rfl 46 (by decide) fl100 (fun _ h9 => h9) rfl dX12_undo_43 ?_
    refine lv_aload_n hx hb dX12_undo_46 rfl (lv_at hl 0 rfl) ?_
    refine va_get (D := D) (ci := 11) (v := .ref (ad 49)) (C := RX12) (T := TX12) (N := 85) hx hb hts inX12 hown hK hP 0 mwd_o0 rfl 49 (by decide) fl103 (fun _ h9 => h9) rfl dX12_undo_47 ?_
    refine lv_aload_n hx hb dX12_undo_50 rfl (lv_at hl 0 rfl) ?_
    refine va_get (D := D) (ci := 11) (v := .int i_2) (C := RX12) (T := TX12) (N := 85) hx hb hts inX12 hown hK hP 0 mwd_o0 rfl 47 (by decide) fl365 (fun _ h9 => h9) rfl dX12_undo_51 ?_
    refine va_iald hx hb hK hP 30 2 mwd_a30 rfl (x_in (by omega) (by omega)) dX12_undo_54 ?_
    refine lv_topi (fun i_6 ei_6 => ?_)
    have ei_6 : i_6 = (σ.2.2.1 49) (Int32.toNatClampNeg i_2) := ei_6
    have bi_6 := b_at hB49 ei_6
    refine lv_aload_n hx hb dX12_undo_55 rfl (lv_at hl 0 rfl) ?_
    refine va_get (D := D) (ci := 11) (v := .ref (ad 51)) (C := RX12) (T := TX12) (N := 85) hx hb hts inX12 hown hK hP 0 mwd_o0 rfl 51 (by decide) fl109 (fun _ h9 => h9) rfl dX12_undo_56 ?_
    refine lv_aload_n hx hb dX12_undo_59 rfl (lv_at hl 0 rfl) ?_
    refine va_get (D := D) (ci := 11) (v := .int i_2) (C := RX12) (T := TX12) (N := 85) hx hb hts inX12 hown hK hP 0 mwd_o0 rfl 47 (by decide) fl365 (fun _ h9 => h9) rfl dX12_undo_60 ?_
    refine va_lald hx hb hK hP 32 3 mwd_a32 rfl (x_in (by omega) (by omega)) dX12_undo_63 ?_
    refine lv_topl (fun j_7 ej_7 => ?_)
    have ej_7 : j_7 = (σ.2.2.2 51) (Int32.toNatClampNeg i_2) := ej_7
    have bj_7 := b_atJ hB51 ej_7
    refine va_last hx hb hK hP hD hS 29 3 mwd_a29 rfl (x_in (by omega) (by omega)) dX12_undo_64 (fun H locs hP hD hS => ?_)
    obtain ⟨f_8, ef_8⟩ : ∃ z9 : Nat → Int64, z9 = (vp_updL (σ.2.2.2 46) (Int32.toNatClampNeg i_6) j_7) := ⟨_, rfl⟩
    have hP : va_P D vwCl (mwd y ad zw (tJ (tJ (sI σ 47 i_2) 45 f_5) 46 f_8)) H := by rw [ef_8]; exact x_trP hP mwd_s29
    have hD : va_D A (mwd y ad zw (tJ (tJ (sI σ 47 i_2) 45 f_5) 46 f_8)) := by rw [ef_8]; exact x_trD hD mwd_s29
    have hvf_8 : bJ f_8 0 1000000000 := by rw [ef_8]; exact b_updJ hB46 (by omega) (by omega)
    refine lv_iconst (v := 1) hx hb dX12_undo_65 (by decide) ?_
    exact x_zretW (v := 1) (u := (i_2, f_5, f_8)) hx hb hr hQ rfl (by (try dsimp only); exact ⟨⟨by omega, by omega⟩, hvf_5, hvf_8⟩) hP hD hK hS dX12_undo_66 hlocks
  · have kc_1 : (σ.1 47).toInt = 0 := by have h9 := c_1; simp only [ge_iff_le, gt_iff_lt, x_lt, x_le, x_eq, ne_eq, Int32.not_lt, Int32.not_le] at h9; simp only [Int32.reduceToInt] at h9; omega
    refine lv_iconst (v := 0) hx hb dX12_undo_7 (by decide) ?_
    have hP : va_P D vwCl (mwd y ad zw (tJ (tJ (sI σ 47 (σ.1 47)) 45 (σ.2.2.2 45)) 46 (σ.2.2.2 46))) H := hP
    have hD : va_D A (mwd y ad zw (tJ (tJ (sI σ 47 (σ.1 47)) 45 (σ.2.2.2 45)) 46 (σ.2.2.2 46))) := hD
    exact x_zretW (v := 0) (u := ((σ.1 47), (σ.2.2.2 45), (σ.2.2.2 46))) hx hb hr hQ rfl (by (try dsimp only); exact ⟨⟨by omega, by omega⟩, hB45, hB46⟩) hP hD hK hS dX12_undo_8 hlocks

def v_q_redo : List Cond := .code yX12_redo cX12_redo 1 (some .boolean) :: ([.fieldLink RX12 365 "SlopeRunnerModel" "done" "I", .fieldLink RX12 368 "SlopeRunnerModel" "doneAll" "I", .fieldLink RX12 97 "SlopeRunnerModel" "putAbove" "[J", .fieldLink RX12 103 "SlopeRunnerModel" "doneInput" "[I", .fieldLink RX12 112 "SlopeRunnerModel" "isAbove" "[J", .fieldLink RX12 100 "SlopeRunnerModel" "putBelow" "[J", .fieldLink RX12 115 "SlopeRunnerModel" "isBelow" "[J"] ++ wsX120)
set_option maxHeartbeats 4000000 in
set_option maxRecDepth 100000 in
theorem q_redo (l : Launch) (D : va_G) (y : Nat → ClassId) (sz : Nat) (ad : Nat → Nat) (zw : Nat → Nat → Int32) (σ : OS) (hd0 : 0 ≤ (σ.1 47).toInt) (hd1 : (σ.1 47).toInt ≤ (σ.1 48).toInt) (hd2 : (σ.1 48).toInt ≤ 40) (hB49 : bI (σ.2.2.1 49) 0 7) (hB50 : bJ (σ.2.2.2 50) (-1000000000) 1000000000) (hB51 : bJ (σ.2.2.2 51) 0 1000000000) (hB52 : bJ (σ.2.2.2 52) (-1000000000) 1000000000) (hB53 : bJ (σ.2.2.2 53) 0 1000000000) (hB45 : bJ (σ.2.2.2 45) (-1000000000) 1000000000) (hB46 : bJ (σ.2.2.2 46) 0 1000000000) : Met l yX12_redo v_q_redo ({ frames := 0, cells := 0, slots := 0, locals := 0 } : Room) (va_Pc [.ref (ad 1)] (xPre D (xT y) (mwd y ad zw σ) sz)) (va_Qi (fun (r : Int32) (u : Int32 × (Nat → Int64) × (Nat → Int64)) => (0 ≤ u.1.toInt ∧ u.1.toInt ≤ (σ.1 48).toInt) ∧ bJ u.2.1 (-1000000000) 1000000000 ∧ bJ u.2.2 0 1000000000) (fun (u : Int32 × (Nat → Int64) × (Nat → Int64)) => xB D (xT y) (va_A (mwd y ad zw σ) sz) (mwd y ad zw (tJ (tJ (sI σ 47 u.1) 45 u.2.1) 46 u.2.2))) (va_A (mwd y ad zw σ) sz)) 0 0 (va_A (mwd y ad zw σ) sz) := by
  refine x_meti (cc := cX12_redo) (maxL := 1) (by decide) rfl (Nat.le_of_ble_eq_true rfl) ?_
  intro p e s m below meth c A H locs Q hx hb hml hown hts hr hlocks hmn hA hP hK hD hS ls hl hQ
  have hl : lv_has ls 1 [(0, .ref (ad 1))] := hl
  have fl365 := hts (.fieldLink RX12 365 "SlopeRunnerModel" "done" "I") (List.mem_of_getElem? (i := 1) rfl)
  have inX12 : ∀ w ∈ wsX120, w ∈ v_q_redo := (fun w h => List.mem_cons_of_mem _ (List.mem_append_right _ h))
  have fl368 := hts (.fieldLink RX12 368 "SlopeRunnerModel" "doneAll" "I") (List.mem_of_getElem? (i := 2) rfl)
  have fl97 := hts (.fieldLink RX12 97 "SlopeRunnerModel" "putAbove" "[J") (List.mem_of_getElem? (i := 3) rfl)
  have fl103 := hts (.fieldLink RX12 103 "SlopeRunnerModel" "doneInput" "[I") (List.mem_of_getElem? (i := 4) rfl)
  have fl112 := hts (.fieldLink RX12 112 "SlopeRunnerModel" "isAbove" "[J") (List.mem_of_getElem? (i := 5) rfl)
  have fl100 := hts (.fieldLink RX12 100 "SlopeRunnerModel" "putBelow" "[J") (List.mem_of_getElem? (i := 6) rfl)
  have fl115 := hts (.fieldLink RX12 115 "SlopeRunnerModel" "isBelow" "[J") (List.mem_of_getElem? (i := 7) rfl)
  have kk_1 : (1 : Int32).toInt = 1 := rfl
  have kk_0 : (0 : Int32).toInt = 0 := rfl
  refine lv_aload_n hx hb dX12_redo_0 rfl (lv_at hl 0 rfl) ?_
  refine va_get (D := D) (ci := 11) (v := .int (σ.1 47)) (C := RX12) (T := TX12) (N := 85) hx hb hts inX12 hown hK hP 0 mwd_o0 rfl 47 (by decide) fl365 (fun _ h9 => h9) rfl dX12_redo_1 ?_
  refine lv_aload_n hx hb dX12_redo_4 rfl (lv_at hl 0 rfl) ?_
  refine va_get (D := D) (ci := 11) (v := .int (σ.1 48)) (C := RX12) (T := TX12) (N := 85) hx hb hts inX12 hown hK hP 0 mwd_o0 rfl 48 (by decide) fl368 (fun _ h9 => h9) rfl dX12_redo_5 ?_
  refine lv_icmp_ne (tgt := 13) hx hb dX12_redo_8 (by decide) (fun c_1 => ?_) (fun c_1 => ?_)
  · have kc_1 : (σ.1 47).toInt ≠ (σ.1 48).toInt := by have h9 := c_1; simp only [ge_iff_le, gt_iff_lt, x_lt, x_le, x_eq, ne_eq, Int32.not_lt, Int32.not_le] at h9; omega
    refine lv_aload_n hx hb dX12_redo_13 rfl (lv_at hl 0 rfl) ?_
    refine va_get (D := D) (ci := 11) (v := .ref (ad 45)) (C := RX12) (T := TX12) (N := 85) hx hb hts inX12 hown hK hP 0 mwd_o0 rfl 45 (by decide) fl97 (fun _ h9 => h9) rfl dX12_redo_14 ?_
    refine lv_aload_n hx hb dX12_redo_17 rfl (lv_at hl 0 rfl) ?_
    refine va_get (D := D) (ci := 11) (v := .ref (ad 49)) (C := RX12) (T := TX12) (N := 85) hx hb hts inX12 hown hK hP 0 mwd_o0 rfl 49 (by decide) fl103 (fun _ h9 => h9) rfl dX12_redo_18 ?_
    refine lv_aload_n hx hb dX12_redo_21 rfl (lv_at hl 0 rfl) ?_
    refine va_get (D := D) (ci := 11) (v := .int (σ.1 47)) (C := RX12) (T := TX12) (N := 85) hx hb hts inX12 hown hK hP 0 mwd_o0 rfl 47 (by decide) fl365 (fun _ h9 => h9) rfl dX12_redo_22 ?_
    refine va_iald hx hb hK hP 30 2 mwd_a30 rfl (x_in (by omega) (by omega)) dX12_redo_25 ?_
    refine lv_topi (fun i_2 ei_2 => ?_)
    have ei_2 : i_2 = (σ.2.2.1 49) (Int32.toNatClampNeg (σ.1 47)) := ei_2
    have bi_2 := b_at hB49 ei_2
    refine lv_aload_n hx hb dX12_redo_26 rfl (lv_at hl 0 rfl) ?_
    refine va_get (D := D) (ci := 11) (v := .ref (ad 52)) (C := RX12) (T := TX12) (N := 85) hx hb hts inX12 hown hK hP 0 mwd_o0 rfl 52 (by decide) fl112 (fun _ h9 => h9) rfl dX12_redo_27 ?_
    refine lv_aload_n hx hb dX12_redo_30 rfl (lv_at hl 0 rfl) ?_
    refine va_get (D := D) (ci := 11) (v := .int (σ.1 47)) (C := RX12) (T := TX12) (N := 85) hx hb hts inX12 hown hK hP 0 mwd_o0 rfl 47 (by decide) fl365 (fun _ h9 => h9) rfl dX12_redo_31 ?_
    refine va_lald hx hb hK hP 33 3 mwd_a33 rfl (x_in (by omega) (by omega)) dX12_redo_34 ?_
    refine lv_topl (fun j_3 ej_3 => ?_)
    have ej_3 : j_3 = (σ.2.2.2 52) (Int32.toNatClampNeg (σ.1 47)) := ej_3
    have bj_3 := b_atJ hB52 ej_3
    refine va_last hx hb hK hP hD hS 28 3 mwd_a28 rfl (x_in (by omega) (by omega)) dX12_redo_35 (fun H locs hP hD hS => ?_)
    obtain ⟨f_4, ef_4⟩ : ∃ z9 : Nat → Int64, z9 = (vp_updL (σ.2.2.2 45) (Int32.toNatClampNeg i_2) j_3) := ⟨_, rfl⟩
    have hP : va_P D vwCl (mwd y ad zw (tJ σ 45 f_4)) H := by rw [ef_4]; exact x_trP hP mwd_s28
    have hD : va_D A (mwd y ad zw (tJ σ 45 f_4)) := by rw [ef_4]; exact x_trD hD mwd_s28
    have hvf_4 : bJ f_4 (-1000000000) 1000000000 := by rw [ef_4]; exact b_updJ hB45 (by omega) (by omega)
    refine lv_aload_n hx hb dX12_redo_36 rfl (lv_at hl 0 rfl) ?_
    refine va_get (D := D) (ci := 11) (v := .ref (ad 46)) (C := RX12) (T := TX12) (N := 85) hx hb hts inX12 hown hK hP 0 mwd_o0 rfl 46 (by decide) fl100 (fun _ h9 => h9) rfl dX12_redo_37 ?_
    refine lv_aload_n hx hb dX12_redo_40 rfl (lv_at hl 0 rfl) ?_
    refine va_get (D := D) (ci := 11) (v := .ref (ad 49)) (C := RX12) (T := TX12) (N := 85) hx hb hts inX12 hown hK hP 0 mwd_o0 rfl 49 (by decide) fl103 (fun _ h9 => h9) rfl dX12_redo_41 ?_
    refine lv_aload_n hx hb dX12_redo_44 rfl (lv_at hl 0 rfl) ?_
    refine va_get (D := D) (ci := 11) (v := .int (σ.1 47)) (C := RX12) (T := TX12) (N := 85) hx hb hts inX12 hown hK hP 0 mwd_o0 rfl 47 (by decide) fl365 (fun _ h9 => h9) rfl dX12_redo_45 ?_
    refine va_iald hx hb hK hP 30 2 mwd_a30 rfl (x_in (by omega) (by omega)) dX12_redo_48 ?_
    refine lv_topi (fun i_5 ei_5 => ?_)
    have ei_5 : i_5 = (σ.2.2.1 49) (Int32.toNatClampNeg (σ.1 47)) := ei_5
    have bi_5 := b_at hB49 ei_5
    refine lv_aload_n hx hb dX12_redo_49 rfl (lv_at hl 0 rfl) ?_
    refine va_get (D := D) (ci := 11) (v := .ref (ad 53)) (C := RX12) (T := TX12) (N := 85) hx hb hts inX12 hown hK hP 0 mwd_o0 rfl 53 (by decide) fl115 (fun _ h9 => h9) rfl dX12_redo_50 ?_
    refine lv_aload_n hx hb dX12_redo_53 rfl (lv_at hl 0 rfl) ?_
    refine va_get (D := D) (ci := 11) (v := .int (σ.1 47)) (C := RX12) (T := TX12) (N := 85) hx hb hts inX12 hown hK hP 0 mwd_o0 rfl 47 (by decide) fl365 (fun _ h9 => h9) rfl dX12_redo_54 ?_
    refine va_lald hx hb hK hP 34 3 mwd_a34 rfl (x_in (by omega) (by omega)) dX12_redo_57 ?_
    refine lv_topl (fun j_6 ej_6 => ?_)
    have ej_6 : j_6 = (σ.2.2.2 53) (Int32.toNatClampNeg (σ.1 47)) := ej_6
    have bj_6 := b_atJ hB53 ej_6
    refine va_last hx hb hK hP hD hS 29 3 mwd_a29 rfl (x_in (by omega) (by omega)) dX12_redo_58 (fun H locs hP hD hS => ?_)
    obtain ⟨f_7, ef_7⟩ : ∃ z9 : Nat → Int64, z9 = (vp_updL (σ.2.2.2 46) (Int32.toNatClampNeg i_5) j_6) := ⟨_, rfl⟩
    have hP : va_P D vwCl (mwd y ad zw (tJ (tJ σ 45 f_4) 46 f_7)) H := by rw [ef_7]; exact x_trP hP mwd_s29
    have hD : va_D A (mwd y ad zw (tJ (tJ σ 45 f_4) 46 f_7)) := by rw [ef_7]; exact x_trD hD mwd_s29
    have hvf_7 : bJ f_7 0 1000000000 := by rw [ef_7]; exact b_updJ hB46 (by omega) (by omega)
    refine lv_aload_n hx hb dX12_redo_59 rfl (lv_at hl 0 rfl) ?_
    refine lv_dup hx hb dX12_redo_60 rfl ?_
    refine va_get (D := D) (ci := 11) (v := .int (σ.1 47)) (C := RX12) (T := TX12) (N := 85) hx hb hts inX12 hown hK hP 0 mwd_o0 rfl 47 (by decide) fl365 (fun _ h9 => h9) rfl dX12_redo_61 ?_
    refine lv_iconst (v := 1) hx hb dX12_redo_64 (by decide) ?_
    refine lv_iadd hx hb dX12_redo_65 ?_
    refine lv_topi (fun i_8 ei_8 => ?_)
    have vi_8 : i_8.toInt = (σ.1 47).toInt + 1 := by have h9 := x_add ei_8 (by omega) (by omega); omega
    refine va_put (D := D) (ci := 11) (v := .int i_8) (ty := .int) (C := RX12) (T := TX12) (N := 85) hx hb hts inX12 tyX12 tyX12_ok nmX12 hown hK hP hD hS 0 mwd_o0 rfl 47 (by decide) fl365 (fun _ h9 => h9) rfl (by decide +kernel) rfl rfl (Nat.le_of_ble_eq_true rfl) dX12_redo_66 (fun H locs hP hD hS => ?_)
    have hP : va_P D vwCl (mwd y ad zw (sI (tJ (tJ σ 45 f_4) 46 f_7) 47 i_8)) H := x_trP hP mwd_p0_47
    have hD : va_D A (mwd y ad zw (sI (tJ (tJ σ 45 f_4) 46 f_7) 47 i_8)) := x_trD hD mwd_p0_47
    refine lv_iconst (v := 1) hx hb dX12_redo_69 (by decide) ?_
    have hP : va_P D vwCl (mwd y ad zw (tJ (tJ (sI σ 47 i_8) 45 f_4) 46 f_7)) H := hP
    have hD : va_D A (mwd y ad zw (tJ (tJ (sI σ 47 i_8) 45 f_4) 46 f_7)) := hD
    exact x_zretW (v := 1) (u := (i_8, f_4, f_7)) hx hb hr hQ rfl (by (try dsimp only); exact ⟨⟨by omega, by omega⟩, hvf_4, hvf_7⟩) hP hD hK hS dX12_redo_70 hlocks
  · have kc_1 : (σ.1 47).toInt = (σ.1 48).toInt := by have h9 := c_1; simp only [ge_iff_le, gt_iff_lt, x_lt, x_le, x_eq, ne_eq, Int32.not_lt, Int32.not_le] at h9; omega
    refine lv_iconst (v := 0) hx hb dX12_redo_11 (by decide) ?_
    have hP : va_P D vwCl (mwd y ad zw (tJ (tJ (sI σ 47 (σ.1 47)) 45 (σ.2.2.2 45)) 46 (σ.2.2.2 46))) H := hP
    have hD : va_D A (mwd y ad zw (tJ (tJ (sI σ 47 (σ.1 47)) 45 (σ.2.2.2 45)) 46 (σ.2.2.2 46))) := hD
    exact x_zretW (v := 0) (u := ((σ.1 47), (σ.2.2.2 45), (σ.2.2.2 46))) hx hb hr hQ rfl (by (try dsimp only); exact ⟨⟨by omega, by omega⟩, hB45, hB46⟩) hP hD hK hS dX12_redo_12 hlocks

def v_q_forward : List Cond := .code yX12_forward cX12_forward 4 (some .long) :: ([.fieldLink RX12 170 "SlopeRunnerModel" "slopeDown" "[J", .fieldLink RX12 148 "SlopeRunnerModel" "resultAt" "[I", .fieldLink RX12 167 "SlopeRunnerModel" "slopeUp" "[J", .constantLong RX12 406 (-2000000000)] ++ ((wsV RX12 454 RX12 yX12_isResult v_q_isResult) ++ ((wsV RX12 464 RX12 yX12_isInput v_q_isInput) ++ ((wsV RX12 467 RX12 yX12_marks v_q_marks) ++ ((wsV RX12 470 RX12 yX12_slopes v_q_slopes0) ++ wsX120)))))
theorem g_q_forward_0 : GoodIn v_q_forward (wsV RX12 454 RX12 yX12_isResult v_q_isResult) := goodIn_sub (fun w h => List.mem_cons_of_mem _ (List.mem_append_right _ (List.mem_append_left _ h))) (by decide +kernel)
theorem g_q_forward_1 : GoodIn v_q_forward (wsV RX12 464 RX12 yX12_isInput v_q_isInput) := goodIn_sub (fun w h => List.mem_cons_of_mem _ (List.mem_append_right _ (List.mem_append_right _ (List.mem_append_left _ h)))) (by decide +kernel)
theorem g_q_forward_2 : GoodIn v_q_forward (wsV RX12 467 RX12 yX12_marks v_q_marks) := goodIn_sub (fun w h => List.mem_cons_of_mem _ (List.mem_append_right _ (List.mem_append_right _ (List.mem_append_right _ (List.mem_append_left _ h))))) (by decide +kernel)
theorem g_q_forward_3 : GoodIn v_q_forward (wsV RX12 470 RX12 yX12_slopes v_q_slopes0) := goodIn_sub (fun w h => List.mem_cons_of_mem _ (List.mem_append_right _ (List.mem_append_right _ (List.mem_append_right _ (List.mem_append_right _ (List.mem_append_left _ h)))))) (by decide +kernel)
set_option maxHeartbeats 4000000 in
set_option maxRecDepth 100000 in
theorem q_forward (l : Launch) (D : va_G) (y : Nat → ClassId) (sz : Nat) (ad : Nat → Nat) (zw : Nat → Nat → Int32) (σ : OS) (k i b : Int32) (h5 : 0 ≤ (σ.2.2.1 24 5).toInt ∧ (σ.2.2.1 24 5).toInt ≤ 8) (hop : opc (σ.2.2.1 59) (σ.2.2.1 60) (σ.2.2.1 61)) (hB75 : bJ (σ.2.2.2 75) (-1000000000) 1000000000) (hB76 : bJ (σ.2.2.2 76) 0 1000000000) (hB57 : bJ (σ.2.2.2 57) (-1000000000) 1000000000) (hB58 : bJ (σ.2.2.2 58) 0 1000000000) (hB62 : bI (σ.2.2.1 62) 0 1760) (hB65 : bI (σ.2.2.1 65) 0 1759) (hB64 : bI (σ.2.2.1 64) 0 12) : Met l yX12_forward v_q_forward ({ frames := 6, cells := 0, slots := 0, locals := 168 } : Room) (va_Pc [.ref (ad 1), .int k, .int i, .int b] (xPre D (xT y) (mwd y ad zw σ) sz)) (va_Ql (fun (r : Int64) (u : (Nat → Int32) × Int32 × Int64 × Int64 × (Nat → Int64) × (Nat → Int64)) => (True) ∧ bJ u.2.2.2.2.1 (-1000000000) 1000000000 ∧ bJ u.2.2.2.2.2 0 1000000000) (fun (u : (Nat → Int32) × Int32 × Int64 × Int64 × (Nat → Int64) × (Nat → Int64)) => xB D (xT y) (va_A (mwd y ad zw σ) sz) (mwd y ad zw (tJ (tJ (sJ (sJ (sI (tI σ 74 u.1) 44 u.2.1) 42 u.2.2.1) 43 u.2.2.2.1) 75 u.2.2.2.2.1) 76 u.2.2.2.2.2))) (va_A (mwd y ad zw σ) sz)) 0 0 (va_A (mwd y ad zw σ) sz) := by
  refine x_metl (cc := cX12_forward) (maxL := 4) (by decide) rfl (Nat.le_of_ble_eq_true rfl) ?_
  intro p e s m below meth c A H locs Q hx hb hml hown hts hr hlocks hmn hA hP hK hD hS ls hl hQ
  have hl : lv_has ls 4 [(0, .ref (ad 1)), (1, .int k), (2, .int i), (3, .int b)] := hl
  have kk_0 : (0 : Int32).toInt = 0 := rfl
  have fl170 := hts (.fieldLink RX12 170 "SlopeRunnerModel" "slopeDown" "[J") (List.mem_of_getElem? (i := 1) rfl)
  have inX12 : ∀ w ∈ wsX120, w ∈ v_q_forward := (fun w h => List.mem_cons_of_mem _ (List.mem_append_right _ (List.mem_append_right _ (List.mem_append_right _ (List.mem_append_right _ (List.mem_append_right _ h))))))
  have fl148 := hts (.fieldLink RX12 148 "SlopeRunnerModel" "resultAt" "[I") (List.mem_of_getElem? (i := 2) rfl)
  have fl167 := hts (.fieldLink RX12 167 "SlopeRunnerModel" "slopeUp" "[J") (List.mem_of_getElem? (i := 3) rfl)
  refine lv_aload_n hx hb dX12_forward_0 rfl (lv_at hl 0 rfl) ?_
  refine lv_iload_n hx hb dX12_forward_1 rfl (lv_at hl 1 rfl) ?_
  refine x_calliW (va_runV (As := [.int k]) (rest := []) ⟨hx, hb, hml, hown, hts⟩ (q_isResult l D y H.size ad zw σ k hB64) (cwV 1 hts g_q_forward_0 rfl rfl rfl (by decide +kernel) ⟨Nat.le_of_ble_eq_true rfl, Nat.le_of_ble_eq_true rfl⟩) (x_preV (q := (RX12, TX12, 85)) hK hP hD (ci := 11) (q0 := 0) rfl mwd_o0) rfl rfl hl.1 rfl (lv_room (Nat.le_of_ble_eq_true rfl)) dX12_forward_2 ⟨Nat.le_of_ble_eq_true rfl, Nat.le_of_ble_eq_true rfl⟩) hP hD hS hA (fun r_1 u H locs hw hP hD hS => ?_)
  try dsimp only at hw
  have hP : va_P D vwCl (mwd y ad zw σ) H := hP
  have hD : va_D A (mwd y ad zw σ) := hD
  refine lv_if_eq (tgt := 16) hx hb dX12_forward_5 (by decide) (fun c_2 => ?_) (fun c_2 => ?_)
  · have kc_2 : r_1.toInt = 0 := by have h9 := c_2; simp only [ge_iff_le, gt_iff_lt, x_lt, x_le, x_eq, ne_eq, Int32.not_lt, Int32.not_le] at h9; simp only [Int32.reduceToInt] at h9; omega
    refine lv_ldc2 (v := (-2000000000)) hx hb hown (hts (.constantLong RX12 406 (-2000000000)) (List.mem_of_getElem? (i := 4) rfl)) dX12_forward_16 ?_
    have hP : va_P D vwCl (mwd y ad zw (tJ (tJ (sJ (sJ (sI (tI σ 74 (σ.2.2.1 74)) 44 (σ.1 44)) 42 (σ.2.1 42)) 43 (σ.2.1 43)) 75 (σ.2.2.2 75)) 76 (σ.2.2.2 76))) H := hP
    have hD : va_D A (mwd y ad zw (tJ (tJ (sJ (sJ (sI (tI σ 74 (σ.2.2.1 74)) 44 (σ.1 44)) 42 (σ.2.1 42)) 43 (σ.2.1 43)) 75 (σ.2.2.2 75)) 76 (σ.2.2.2 76))) := hD
    exact x_lretW (v := (-2000000000)) (u := ((σ.2.2.1 74), (σ.1 44), (σ.2.1 42), (σ.2.1 43), (σ.2.2.2 75), (σ.2.2.2 76))) hx hb hr hQ (by (try dsimp only); exact ⟨trivial, hB75, hB76⟩) hP hD hK hS dX12_forward_19 hlocks
  · have kc_2 : r_1.toInt ≠ 0 := by have h9 := c_2; simp only [ge_iff_le, gt_iff_lt, x_lt, x_le, x_eq, ne_eq, Int32.not_lt, Int32.not_le] at h9; simp only [Int32.reduceToInt] at h9; omega
    refine lv_aload_n hx hb dX12_forward_8 rfl (lv_at hl 0 rfl) ?_
    refine lv_iload_n hx hb dX12_forward_9 rfl (lv_at hl 2 rfl) ?_
    refine x_calliW (va_runV (As := [.int i]) (rest := []) ⟨hx, hb, hml, hown, hts⟩ (q_isInput l D y H.size ad zw σ i h5) (cwV 1 hts g_q_forward_1 rfl rfl rfl (by decide +kernel) ⟨Nat.le_of_ble_eq_true rfl, Nat.le_of_ble_eq_true rfl⟩) (x_preV (q := (RX12, TX12, 85)) hK hP hD (ci := 11) (q0 := 0) rfl mwd_o0) rfl rfl hl.1 rfl (lv_room (Nat.le_of_ble_eq_true rfl)) dX12_forward_10 ⟨Nat.le_of_ble_eq_true rfl, Nat.le_of_ble_eq_true rfl⟩) hP hD hS hA (fun r_3 u H locs hw hP hD hS => ?_)
    try dsimp only at hw
    have hP : va_P D vwCl (mwd y ad zw σ) H := hP
    have hD : va_D A (mwd y ad zw σ) := hD
    refine lv_if_ne (tgt := 20) hx hb dX12_forward_13 (by decide) (fun c_4 => ?_) (fun c_4 => ?_)
    · have kc_4 : r_3.toInt ≠ 0 := by have h9 := c_4; simp only [ge_iff_le, gt_iff_lt, x_lt, x_le, x_eq, ne_eq, Int32.not_lt, Int32.not_le] at h9; simp only [Int32.reduceToInt] at h9; omega
      refine lv_aload_n hx hb dX12_forward_20 rfl (lv_at hl 0 rfl) ?_
      refine lv_iload_n hx hb dX12_forward_21 rfl (lv_at hl 1 rfl) ?_
      refine x_callvW (va_runV (As := [.int k]) (rest := []) ⟨hx, hb, hml, hown, hts⟩ (q_marks l D y H.size ad zw σ k (by first | omega | decide) (by first | omega | decide) hop hB62 hB65) (cwV 1 hts g_q_forward_2 rfl rfl rfl (by decide +kernel) ⟨Nat.le_of_ble_eq_true rfl, Nat.le_of_ble_eq_true rfl⟩) (x_preV (q := (RX12, TX12, 85)) hK hP hD (ci := 11) (q0 := 0) rfl mwd_o0) rfl rfl hl.1 rfl (lv_room (Nat.le_of_ble_eq_true rfl)) dX12_forward_22 ⟨Nat.le_of_ble_eq_true rfl, Nat.le_of_ble_eq_true rfl⟩) hP hD hS hA (fun u H locs hw hP hD hS => ?_)
      obtain ⟨f_5, rfl⟩ : ∃ z9, z9 = u := ⟨_, rfl⟩
      try dsimp only at hw
      have hP : va_P D vwCl (mwd y ad zw (tI σ 74 f_5)) H := hP
      have hD : va_D A (mwd y ad zw (tI σ 74 f_5)) := hD
      refine lv_aload_n hx hb dX12_forward_25 rfl (lv_at hl 0 rfl) ?_
      refine lv_iload_n hx hb dX12_forward_26 rfl (lv_at hl 1 rfl) ?_
      refine lv_iload_n hx hb dX12_forward_27 rfl (lv_at hl 2 rfl) ?_
      refine lv_iconst (v := 0) hx hb dX12_forward_28 (by decide) ?_
      refine x_calliW (va_runV (As := [.int k, .int i, .int 0]) (rest := []) ⟨hx, hb, hml, hown, hts⟩ (q_slopes0 l D y H.size ad zw (tI σ 74 f_5) k i hop hB75 hB76 hB57 hB58 hB62) (cwV 3 hts g_q_forward_3 rfl rfl rfl (by decide +kernel) ⟨Nat.le_of_ble_eq_true rfl, Nat.le_of_ble_eq_true rfl⟩) (x_preV (q := (RX12, TX12, 85)) hK hP hD (ci := 11) (q0 := 0) rfl mwd_o0) rfl rfl hl.1 rfl (lv_room (Nat.le_of_ble_eq_true rfl)) dX12_forward_29 ⟨Nat.le_of_ble_eq_true rfl, Nat.le_of_ble_eq_true rfl⟩) hP hD hS hA (fun r_6 u H locs hw hP hD hS => ?_)
      obtain ⟨n_7, j_8, j_9, f_10, f_11⟩ := u
      try dsimp only at hw
      have hP : va_P D vwCl (mwd y ad zw (tJ (tJ (sJ (sJ (sI (tI σ 74 f_5) 44 n_7) 42 j_8) 43 j_9) 75 f_10) 76 f_11)) H := hP
      have hD : va_D A (mwd y ad zw (tJ (tJ (sJ (sJ (sI (tI σ 74 f_5) 44 n_7) 42 j_8) 43 j_9) 75 f_10) 76 f_11)) := hD
      have hw : (r_6.toInt = 0 ∨ r_6.toInt = 1) ∧ bJ f_10 (-1000000000) 1000000000 ∧ bJ f_11 0 1000000000 := hw
      obtain ⟨hw, hg_12, hg_13⟩ := hw
      refine lv_if_ne (tgt := 39) hx hb dX12_forward_32 (by decide) (fun c_14 => ?_) (fun c_14 => ?_)
      · have kc_14 : r_6.toInt ≠ 0 := by have h9 := c_14; simp only [ge_iff_le, gt_iff_lt, x_lt, x_le, x_eq, ne_eq, Int32.not_lt, Int32.not_le] at h9; simp only [Int32.reduceToInt] at h9; omega
        refine lv_iload_n hx hb dX12_forward_39 rfl (lv_at hl 3 rfl) ?_
        refine lv_if_eq (tgt := 57) hx hb dX12_forward_40 (by decide) (fun c_15 => ?_) (fun c_15 => ?_)
        · have kc_15 : b.toInt = 0 := by have h9 := c_15; simp only [ge_iff_le, gt_iff_lt, x_lt, x_le, x_eq, ne_eq, Int32.not_lt, Int32.not_le] at h9; simp only [Int32.reduceToInt] at h9; omega
          refine lv_aload_n hx hb dX12_forward_57 rfl (lv_at hl 0 rfl) ?_
          refine va_get (D := D) (ci := 11) (v := .ref (ad 76)) (C := RX12) (T := TX12) (N := 85) hx hb hts inX12 hown hK hP 0 mwd_o0 rfl 76 (by decide) fl170 (fun _ h9 => h9) rfl dX12_forward_58 ?_
          refine lv_aload_n hx hb dX12_forward_61 rfl (lv_at hl 0 rfl) ?_
          refine va_get (D := D) (ci := 11) (v := .ref (ad 65)) (C := RX12) (T := TX12) (N := 85) hx hb hts inX12 hown hK hP 0 mwd_o0 rfl 65 (by decide) fl148 (fun _ h9 => h9) rfl dX12_forward_62 ?_
          refine lv_iload_n hx hb dX12_forward_65 rfl (lv_at hl 1 rfl) ?_
          refine va_iald hx hb hK hP 45 2 mwd_a45 rfl (x_in (by omega) (by omega)) dX12_forward_66 ?_
          refine lv_topi (fun i_16 ei_16 => ?_)
          have ei_16 : i_16 = (σ.2.2.1 65) (Int32.toNatClampNeg k) := ei_16
          have bi_16 := b_at hB65 ei_16
          refine va_lald hx hb hK hP 52 3 mwd_a52 rfl (x_in (by omega) (by omega)) dX12_forward_67 ?_
          refine lv_topl (fun j_17 ej_17 => ?_)
          have ej_17 : j_17 = f_11 (Int32.toNatClampNeg i_16) := ej_17
          have bj_17 := b_atJ hg_13 ej_17
          exact x_lretW (v := j_17) (u := (f_5, n_7, j_8, j_9, f_10, f_11)) hx hb hr hQ (by (try dsimp only); exact ⟨trivial, hg_12, hg_13⟩) hP hD hK hS dX12_forward_68 hlocks
        · have kc_15 : b.toInt ≠ 0 := by have h9 := c_15; simp only [ge_iff_le, gt_iff_lt, x_lt, x_le, x_eq, ne_eq, Int32.not_lt, Int32.not_le] at h9; simp only [Int32.reduceToInt] at h9; omega
          refine lv_aload_n hx hb dX12_forward_43 rfl (lv_at hl 0 rfl) ?_
          refine va_get (D := D) (ci := 11) (v := .ref (ad 75)) (C := RX12) (T := TX12) (N := 85) hx hb hts inX12 hown hK hP 0 mwd_o0 rfl 75 (by decide) fl167 (fun _ h9 => h9) rfl dX12_forward_44 ?_
          refine lv_aload_n hx hb dX12_forward_47 rfl (lv_at hl 0 rfl) ?_
          refine va_get (D := D) (ci := 11) (v := .ref (ad 65)) (C := RX12) (T := TX12) (N := 85) hx hb hts inX12 hown hK hP 0 mwd_o0 rfl 65 (by decide) fl148 (fun _ h9 => h9) rfl dX12_forward_48 ?_
          refine lv_iload_n hx hb dX12_forward_51 rfl (lv_at hl 1 rfl) ?_
          refine va_iald hx hb hK hP 45 2 mwd_a45 rfl (x_in (by omega) (by omega)) dX12_forward_52 ?_
          refine lv_topi (fun i_18 ei_18 => ?_)
          have ei_18 : i_18 = (σ.2.2.1 65) (Int32.toNatClampNeg k) := ei_18
          have bi_18 := b_at hB65 ei_18
          refine va_lald hx hb hK hP 51 3 mwd_a51 rfl (x_in (by omega) (by omega)) dX12_forward_53 ?_
          refine lv_topl (fun j_19 ej_19 => ?_)
          have ej_19 : j_19 = f_10 (Int32.toNatClampNeg i_18) := ej_19
          have bj_19 := b_atJ hg_12 ej_19
          refine lv_goto (tgt := 68) hx hb dX12_forward_54 (by decide) ?_
          exact x_lretW (v := j_19) (u := (f_5, n_7, j_8, j_9, f_10, f_11)) hx hb hr hQ (by (try dsimp only); exact ⟨trivial, hg_12, hg_13⟩) hP hD hK hS dX12_forward_68 hlocks
      · have kc_14 : r_6.toInt = 0 := by have h9 := c_14; simp only [ge_iff_le, gt_iff_lt, x_lt, x_le, x_eq, ne_eq, Int32.not_lt, Int32.not_le] at h9; simp only [Int32.reduceToInt] at h9; omega
        refine lv_ldc2 (v := (-2000000000)) hx hb hown (hts (.constantLong RX12 406 (-2000000000)) (List.mem_of_getElem? (i := 4) rfl)) dX12_forward_35 ?_
        exact x_lretW (v := (-2000000000)) (u := (f_5, n_7, j_8, j_9, f_10, f_11)) hx hb hr hQ (by (try dsimp only); exact ⟨trivial, hg_12, hg_13⟩) hP hD hK hS dX12_forward_38 hlocks
    · have kc_4 : r_3.toInt = 0 := by have h9 := c_4; simp only [ge_iff_le, gt_iff_lt, x_lt, x_le, x_eq, ne_eq, Int32.not_lt, Int32.not_le] at h9; simp only [Int32.reduceToInt] at h9; omega
      refine lv_ldc2 (v := (-2000000000)) hx hb hown (hts (.constantLong RX12 406 (-2000000000)) (List.mem_of_getElem? (i := 4) rfl)) dX12_forward_16 ?_
      have hP : va_P D vwCl (mwd y ad zw (tJ (tJ (sJ (sJ (sI (tI σ 74 (σ.2.2.1 74)) 44 (σ.1 44)) 42 (σ.2.1 42)) 43 (σ.2.1 43)) 75 (σ.2.2.2 75)) 76 (σ.2.2.2 76))) H := hP
      have hD : va_D A (mwd y ad zw (tJ (tJ (sJ (sJ (sI (tI σ 74 (σ.2.2.1 74)) 44 (σ.1 44)) 42 (σ.2.1 42)) 43 (σ.2.1 43)) 75 (σ.2.2.2 75)) 76 (σ.2.2.2 76))) := hD
      exact x_lretW (v := (-2000000000)) (u := ((σ.2.2.1 74), (σ.1 44), (σ.2.1 42), (σ.2.1 43), (σ.2.2.2 75), (σ.2.2.2 76))) hx hb hr hQ (by (try dsimp only); exact ⟨trivial, hB75, hB76⟩) hP hD hK hS dX12_forward_19 hlocks

def v_q_backward : List Cond := .code yX12_backward cX12_backward 5 (some .long) :: ([.fieldLink RX12 139 "SlopeRunnerModel" "laid" "[I", .fieldLink RX12 384 "SlopeRunnerModel" "isStuck" "Z", .fieldLink RX12 170 "SlopeRunnerModel" "slopeDown" "[J", .fieldLink RX12 167 "SlopeRunnerModel" "slopeUp" "[J", .fieldLink RX12 130 "SlopeRunnerModel" "op" "[I", .fieldLink RX12 148 "SlopeRunnerModel" "resultAt" "[I", .constantLong RX12 406 (-2000000000)] ++ ((wsV RX12 454 RX12 yX12_isResult v_q_isResult) ++ ((wsV RX12 464 RX12 yX12_isInput v_q_isInput) ++ ((wsV RX12 474 RX12 yX12_goesBack v_q_goesBack) ++ ((wsV RX12 457 RX12 yX12_lets v_q_lets0) ++ wsX120)))))
theorem g_q_backward_0 : GoodIn v_q_backward (wsV RX12 454 RX12 yX12_isResult v_q_isResult) := goodIn_sub (fun w h => List.mem_cons_of_mem _ (List.mem_append_right _ (List.mem_append_left _ h))) (by decide +kernel)
theorem g_q_backward_1 : GoodIn v_q_backward (wsV RX12 464 RX12 yX12_isInput v_q_isInput) := goodIn_sub (fun w h => List.mem_cons_of_mem _ (List.mem_append_right _ (List.mem_append_right _ (List.mem_append_left _ h)))) (by decide +kernel)
theorem g_q_backward_2 : GoodIn v_q_backward (wsV RX12 474 RX12 yX12_goesBack v_q_goesBack) := goodIn_sub (fun w h => List.mem_cons_of_mem _ (List.mem_append_right _ (List.mem_append_right _ (List.mem_append_right _ (List.mem_append_left _ h))))) (by decide +kernel)
theorem g_q_backward_3 : GoodIn v_q_backward (wsV RX12 457 RX12 yX12_lets v_q_lets0) := goodIn_sub (fun w h => List.mem_cons_of_mem _ (List.mem_append_right _ (List.mem_append_right _ (List.mem_append_right _ (List.mem_append_right _ (List.mem_append_left _ h)))))) (by decide +kernel)
set_option maxHeartbeats 4000000 in
set_option maxRecDepth 100000 in
theorem q_backward (l : Launch) (D : va_G) (y : Nat → ClassId) (sz : Nat) (ad : Nat → Nat) (zw : Nat → Nat → Int32) (σ : OS) (k i b : Int32) (h5 : 0 ≤ (σ.2.2.1 24 5).toInt ∧ (σ.2.2.1 24 5).toInt ≤ 8) (hop : opc (σ.2.2.1 59) (σ.2.2.1 60) (σ.2.2.1 61)) (hB75 : bJ (σ.2.2.2 75) (-1000000000) 1000000000) (hB76 : bJ (σ.2.2.2 76) 0 1000000000) (hB57 : bJ (σ.2.2.2 57) (-1000000000) 1000000000) (hB58 : bJ (σ.2.2.2 58) 0 1000000000) (hB62 : bI (σ.2.2.1 62) 0 1760) (hB65 : bI (σ.2.2.1 65) 0 1759) (hB64 : bI (σ.2.2.1 64) 0 12) : Met l yX12_backward v_q_backward ({ frames := 6, cells := 0, slots := 0, locals := 160 } : Room) (va_Pc [.ref (ad 1), .int k, .int i, .int b] (xPre D (xT y) (mwd y ad zw σ) sz)) (va_Ql (fun (r : Int64) (u : Int32 × Int64 × Int64 × (Nat → Int64) × (Nat → Int64)) => (True) ∧ bJ u.2.2.2.1 (-1000000000) 1000000000 ∧ bJ u.2.2.2.2 0 1000000000) (fun (u : Int32 × Int64 × Int64 × (Nat → Int64) × (Nat → Int64)) => xB D (xT y) (va_A (mwd y ad zw σ) sz) (mwd y ad zw (tJ (tJ (sJ (sJ (sI σ 44 u.1) 42 u.2.1) 43 u.2.2.1) 75 u.2.2.2.1) 76 u.2.2.2.2))) (va_A (mwd y ad zw σ) sz)) 0 0 (va_A (mwd y ad zw σ) sz) := by
  refine x_metl (cc := cX12_backward) (maxL := 5) (by decide) rfl (Nat.le_of_ble_eq_true rfl) ?_
  intro p e s m below meth c A H locs Q hx hb hml hown hts hr hlocks hmn hA hP hK hD hS ls hl hQ
  have hl : lv_has ls 5 [(0, .ref (ad 1)), (1, .int k), (2, .int i), (3, .int b)] := hl
  have kk_0 : (0 : Int32).toInt = 0 := rfl
  have fl139 := hts (.fieldLink RX12 139 "SlopeRunnerModel" "laid" "[I") (List.mem_of_getElem? (i := 1) rfl)
  have inX12 : ∀ w ∈ wsX120, w ∈ v_q_backward := (fun w h => List.mem_cons_of_mem _ (List.mem_append_right _ (List.mem_append_right _ (List.mem_append_right _ (List.mem_append_right _ (List.mem_append_right _ h))))))
  have fl384 := hts (.fieldLink RX12 384 "SlopeRunnerModel" "isStuck" "Z") (List.mem_of_getElem? (i := 2) rfl)
  have kk_1 : (1 : Int32).toInt = 1 := rfl
  have fl170 := hts (.fieldLink RX12 170 "SlopeRunnerModel" "slopeDown" "[J") (List.mem_of_getElem? (i := 3) rfl)
  have fl167 := hts (.fieldLink RX12 167 "SlopeRunnerModel" "slopeUp" "[J") (List.mem_of_getElem? (i := 4) rfl)
  have fl130 := hts (.fieldLink RX12 130 "SlopeRunnerModel" "op" "[I") (List.mem_of_getElem? (i := 5) rfl)
  have kk_m1 : ((-1) : Int32).toInt = -1 := rfl
  have fl148 := hts (.fieldLink RX12 148 "SlopeRunnerModel" "resultAt" "[I") (List.mem_of_getElem? (i := 6) rfl)
  have kl_0 : (0 : Int64).toInt = 0 := rfl
  have kl_1 : (1 : Int64).toInt = 1 := rfl
  refine lv_aload_n hx hb dX12_backward_0 rfl (lv_at hl 0 rfl) ?_
  refine lv_iload_n hx hb dX12_backward_1 rfl (lv_at hl 1 rfl) ?_
  refine x_calliW (va_runV (As := [.int k]) (rest := []) ⟨hx, hb, hml, hown, hts⟩ (q_isResult l D y H.size ad zw σ k hB64) (cwV 1 hts g_q_backward_0 rfl rfl rfl (by decide +kernel) ⟨Nat.le_of_ble_eq_true rfl, Nat.le_of_ble_eq_true rfl⟩) (x_preV (q := (RX12, TX12, 85)) hK hP hD (ci := 11) (q0 := 0) rfl mwd_o0) rfl rfl hl.1 rfl (lv_room (Nat.le_of_ble_eq_true rfl)) dX12_backward_2 ⟨Nat.le_of_ble_eq_true rfl, Nat.le_of_ble_eq_true rfl⟩) hP hD hS hA (fun r_1 u H locs hw hP hD hS => ?_)
  try dsimp only at hw
  have hP : va_P D vwCl (mwd y ad zw σ) H := hP
  have hD : va_D A (mwd y ad zw σ) := hD
  refine lv_if_eq (tgt := 16) hx hb dX12_backward_5 (by decide) (fun c_2 => ?_) (fun c_2 => ?_)
  · have kc_2 : r_1.toInt = 0 := by have h9 := c_2; simp only [ge_iff_le, gt_iff_lt, x_lt, x_le, x_eq, ne_eq, Int32.not_lt, Int32.not_le] at h9; simp only [Int32.reduceToInt] at h9; omega
    refine lv_ldc2 (v := (-2000000000)) hx hb hown (hts (.constantLong RX12 406 (-2000000000)) (List.mem_of_getElem? (i := 7) rfl)) dX12_backward_16 ?_
    have hP : va_P D vwCl (mwd y ad zw (tJ (tJ (sJ (sJ (sI σ 44 (σ.1 44)) 42 (σ.2.1 42)) 43 (σ.2.1 43)) 75 (σ.2.2.2 75)) 76 (σ.2.2.2 76))) H := hP
    have hD : va_D A (mwd y ad zw (tJ (tJ (sJ (sJ (sI σ 44 (σ.1 44)) 42 (σ.2.1 42)) 43 (σ.2.1 43)) 75 (σ.2.2.2 75)) 76 (σ.2.2.2 76))) := hD
    exact x_lretW (v := (-2000000000)) (u := ((σ.1 44), (σ.2.1 42), (σ.2.1 43), (σ.2.2.2 75), (σ.2.2.2 76))) hx hb hr hQ (by (try dsimp only); exact ⟨trivial, hB75, hB76⟩) hP hD hK hS dX12_backward_19 hlocks
  · have kc_2 : r_1.toInt ≠ 0 := by have h9 := c_2; simp only [ge_iff_le, gt_iff_lt, x_lt, x_le, x_eq, ne_eq, Int32.not_lt, Int32.not_le] at h9; simp only [Int32.reduceToInt] at h9; omega
    refine lv_aload_n hx hb dX12_backward_8 rfl (lv_at hl 0 rfl) ?_
    refine lv_iload_n hx hb dX12_backward_9 rfl (lv_at hl 2 rfl) ?_
    refine x_calliW (va_runV (As := [.int i]) (rest := []) ⟨hx, hb, hml, hown, hts⟩ (q_isInput l D y H.size ad zw σ i h5) (cwV 1 hts g_q_backward_1 rfl rfl rfl (by decide +kernel) ⟨Nat.le_of_ble_eq_true rfl, Nat.le_of_ble_eq_true rfl⟩) (x_preV (q := (RX12, TX12, 85)) hK hP hD (ci := 11) (q0 := 0) rfl mwd_o0) rfl rfl hl.1 rfl (lv_room (Nat.le_of_ble_eq_true rfl)) dX12_backward_10 ⟨Nat.le_of_ble_eq_true rfl, Nat.le_of_ble_eq_true rfl⟩) hP hD hS hA (fun r_3 u H locs hw hP hD hS => ?_)
    try dsimp only at hw
    have hP : va_P D vwCl (mwd y ad zw σ) H := hP
    have hD : va_D A (mwd y ad zw σ) := hD
    refine lv_if_ne (tgt := 20) hx hb dX12_backward_13 (by decide) (fun c_4 => ?_) (fun c_4 => ?_)
    · have kc_4 : r_3.toInt ≠ 0 := by have h9 := c_4; simp only [ge_iff_le, gt_iff_lt, x_lt, x_le, x_eq, ne_eq, Int32.not_lt, Int32.not_le] at h9; simp only [Int32.reduceToInt] at h9; omega
      refine lv_iconst (v := 0) hx hb dX12_backward_20 (by decide) ?_
      refine lv_istore (lv' := [(4, .int 0), (0, .ref (ad 1)), (1, .int k), (2, .int i), (3, .int b)]) hx hb dX12_backward_21 hl (by decide) rfl (fun ls hl => ?_)
      have hP : va_P D vwCl (mwd y ad zw (tJ (tJ σ 75 (σ.2.2.2 75)) 76 (σ.2.2.2 76))) H := hP
      have hD : va_D A (mwd y ad zw (tJ (tJ σ 75 (σ.2.2.2 75)) 76 (σ.2.2.2 76))) := hD
      have loop : ∀ (fu : Nat) (j : Int32) (f1 : Nat → Int64) (f2 : Nat → Int64) (H : Heap) (locs : List Loc) (ls : Array Slot), (0 ≤ j.toInt) → (j.toInt ≤ 1760) → (bJ f1 (-1000000000) 1000000000) → (bJ f2 0 1000000000) → (1760 - j.toInt < (fu : Int)) → va_P D vwCl (mwd y ad zw (tJ (tJ σ 75 f1) 76 f2)) H → va_D A (mwd y ad zw (tJ (tJ σ 75 f1) 76 f2)) → va_S A s.heap H locs → lv_has ls 5 [(4, .int j), (3, .int b), (2, .int i), (1, .int k), (0, .ref (ad 1))] → W p l e ({ frames := 6, cells := 0, slots := 0, locals := 160 } : Room) s m ([.ref (ad 1), .int k, .int i, .int b] : List Value).toArray below meth c H locs 0 0 Q (F0 m 23 ls []) := by
        intro fu
        induction fu with
        | zero =>
          intro j f1 f2 H locs ls hj0 hj1 hf1 hf2 hm
          exact absurd hm (by omega)
        | succ fu ih_loop =>
          intro j f1 f2 H locs ls hj0 hj1 hf1 hf2 hm hP hD hS hl
          refine lv_iload hx hb dX12_backward_23 (lv_at hl 0 rfl) ?_
          refine lv_aload_n hx hb dX12_backward_25 rfl (lv_at hl 4 rfl) ?_
          refine va_get (D := D) (ci := 11) (v := .ref (ad 62)) (C := RX12) (T := TX12) (N := 85) hx hb hts inX12 hown hK hP 0 mwd_o0 rfl 62 (by decide) fl139 (fun _ h9 => h9) rfl dX12_backward_26 ?_
          refine lv_iconst (v := 0) hx hb dX12_backward_29 (by decide) ?_
          refine va_iald hx hb hK hP 42 2 mwd_a42 rfl (x_in (by decide) (by decide)) dX12_backward_30 ?_
          refine lv_topi (fun i_5 ei_5 => ?_)
          have ei_5 : i_5 = (σ.2.2.1 62) (Int32.toNatClampNeg 0) := ei_5
          have bi_5 := b_at hB62 ei_5
          refine lv_icmp_ge (tgt := 64) hx hb dX12_backward_31 (by decide) (fun c_6 => ?_) (fun c_6 => ?_)
          · have kc_6 : j.toInt ≥ i_5.toInt := by have h9 := c_6; simp only [ge_iff_le, gt_iff_lt, x_lt, x_le, x_eq, ne_eq, Int32.not_lt, Int32.not_le] at h9; omega
            refine lv_aload_n hx hb dX12_backward_64 rfl (lv_at hl 4 rfl) ?_
            refine lv_iconst (v := 0) hx hb dX12_backward_65 (by decide) ?_
            refine va_put (D := D) (ci := 11) (v := .int 0) (ty := .boolean) (C := RX12) (T := TX12) (N := 85) hx hb hts inX12 tyX12 tyX12_ok nmX12 hown hK hP hD hS 0 mwd_o0 rfl 44 (by decide) fl384 (fun _ h9 => h9) rfl (by decide +kernel) rfl rfl (Nat.le_of_ble_eq_true rfl) dX12_backward_66 (fun H locs hP hD hS => ?_)
            have hP : va_P D vwCl (mwd y ad zw (sI (tJ (tJ σ 75 f1) 76 f2) 44 0)) H := x_trP hP mwd_p0_44
            have hD : va_D A (mwd y ad zw (sI (tJ (tJ σ 75 f1) 76 f2) 44 0)) := x_trD hD mwd_p0_44
            refine lv_aload_n hx hb dX12_backward_69 rfl (lv_at hl 4 rfl) ?_
            refine va_get (D := D) (ci := 11) (v := .ref (ad 62)) (C := RX12) (T := TX12) (N := 85) hx hb hts inX12 hown hK hP 0 mwd_o0 rfl 62 (by decide) fl139 (fun _ h9 => h9) rfl dX12_backward_70 ?_
            refine lv_iconst (v := 0) hx hb dX12_backward_73 (by decide) ?_
            refine va_iald hx hb hK hP 42 2 mwd_a42 rfl (x_in (by decide) (by decide)) dX12_backward_74 ?_
            refine lv_topi (fun i_7 ei_7 => ?_)
            have ei_7 : i_7 = (σ.2.2.1 62) (Int32.toNatClampNeg 0) := ei_7
            have bi_7 := b_at hB62 ei_7
            refine lv_iconst (v := 1) hx hb dX12_backward_75 (by decide) ?_
            refine lv_isub hx hb dX12_backward_76 ?_
            refine lv_topi (fun i_8 ei_8 => ?_)
            have vi_8 : i_8.toInt = i_7.toInt - 1 := by have h9 := x_sub ei_8 (by omega) (by omega); omega
            refine lv_istore (lv' := [(4, .int i_8), (3, .int b), (2, .int i), (1, .int k), (0, .ref (ad 1))]) hx hb dX12_backward_77 hl (by decide) rfl (fun ls hl => ?_)
            have hP : va_P D vwCl (mwd y ad zw (tJ (tJ (sJ (sJ (sI σ 44 0) 42 (σ.2.1 42)) 43 (σ.2.1 43)) 75 f1) 76 f2)) H := hP
            have hD : va_D A (mwd y ad zw (tJ (tJ (sJ (sJ (sI σ 44 0) 42 (σ.2.1 42)) 43 (σ.2.1 43)) 75 f1) 76 f2)) := hD
            have loop2 : ∀ (fu : Nat) (j : Int32) (n1 : Int32) (j1 : Int64) (j2 : Int64) (f1 : Nat → Int64) (f2 : Nat → Int64) (H : Heap) (locs : List Loc) (ls : Array Slot), (-1 ≤ j.toInt) → (j.toInt < 1760) → (bJ f1 (-1000000000) 1000000000) → (bJ f2 0 1000000000) → (j.toInt + 1 < (fu : Int)) → va_P D vwCl (mwd y ad zw (tJ (tJ (sJ (sJ (sI σ 44 n1) 42 j1) 43 j2) 75 f1) 76 f2)) H → va_D A (mwd y ad zw (tJ (tJ (sJ (sJ (sI σ 44 n1) 42 j1) 43 j2) 75 f1) 76 f2)) → va_S A s.heap H locs → lv_has ls 5 [(4, .int j), (3, .int b), (2, .int i), (1, .int k), (0, .ref (ad 1))] → W p l e ({ frames := 6, cells := 0, slots := 0, locals := 160 } : Room) s m ([.ref (ad 1), .int k, .int i, .int b] : List Value).toArray below meth c H locs 0 0 Q (F0 m 79 ls []) := by
              intro fu
              induction fu with
              | zero =>
                intro j n1 j1 j2 f1 f2 H locs ls hj0 hj1 hf1 hf2 hm
                exact absurd hm (by omega)
              | succ fu ih_loop2 =>
                intro j n1 j1 j2 f1 f2 H locs ls hj0 hj1 hf1 hf2 hm hP hD hS hl
                refine lv_iload hx hb dX12_backward_79 (lv_at hl 0 rfl) ?_
                refine lv_if_lt (tgt := 139) hx hb dX12_backward_81 (by decide) (fun c_9 => ?_) (fun c_9 => ?_)
                · have kc_9 : j.toInt < 0 := by have h9 := c_9; simp only [ge_iff_le, gt_iff_lt, x_lt, x_le, x_eq, ne_eq, Int32.not_lt, Int32.not_le] at h9; simp only [Int32.reduceToInt] at h9; omega
                  refine lv_aload_n hx hb dX12_backward_139 rfl (lv_at hl 4 rfl) ?_
                  refine va_get (D := D) (ci := 11) (v := .int n1) (C := RX12) (T := TX12) (N := 85) hx hb hts inX12 hown hK hP 0 mwd_o0 rfl 44 (by decide) fl384 (fun _ h9 => h9) rfl dX12_backward_140 ?_
                  refine lv_if_eq (tgt := 152) hx hb dX12_backward_143 (by decide) (fun c_10 => ?_) (fun c_10 => ?_)
                  · have kc_10 : n1.toInt = 0 := by have h9 := c_10; simp only [ge_iff_le, gt_iff_lt, x_lt, x_le, x_eq, ne_eq, Int32.not_lt, Int32.not_le] at h9; simp only [Int32.reduceToInt] at h9; omega
                    refine lv_iload_n hx hb dX12_backward_152 rfl (lv_at hl 1 rfl) ?_
                    refine lv_if_eq (tgt := 165) hx hb dX12_backward_153 (by decide) (fun c_11 => ?_) (fun c_11 => ?_)
                    · have kc_11 : b.toInt = 0 := by have h9 := c_11; simp only [ge_iff_le, gt_iff_lt, x_lt, x_le, x_eq, ne_eq, Int32.not_lt, Int32.not_le] at h9; simp only [Int32.reduceToInt] at h9; omega
                      refine lv_aload_n hx hb dX12_backward_165 rfl (lv_at hl 4 rfl) ?_
                      refine va_get (D := D) (ci := 11) (v := .ref (ad 76)) (C := RX12) (T := TX12) (N := 85) hx hb hts inX12 hown hK hP 0 mwd_o0 rfl 76 (by decide) fl170 (fun _ h9 => h9) rfl dX12_backward_166 ?_
                      refine lv_iload_n hx hb dX12_backward_169 rfl (lv_at hl 2 rfl) ?_
                      refine va_lald hx hb hK hP 52 3 mwd_a52 rfl (x_in (by omega) (by omega)) dX12_backward_170 ?_
                      refine lv_topl (fun j_12 ej_12 => ?_)
                      have ej_12 : j_12 = f2 (Int32.toNatClampNeg i) := ej_12
                      have bj_12 := b_atJ hf2 ej_12
                      exact x_lretW (v := j_12) (u := (n1, j1, j2, f1, f2)) hx hb hr hQ (by (try dsimp only); exact ⟨trivial, hf1, hf2⟩) hP hD hK hS dX12_backward_171 hlocks
                    · have kc_11 : b.toInt ≠ 0 := by have h9 := c_11; simp only [ge_iff_le, gt_iff_lt, x_lt, x_le, x_eq, ne_eq, Int32.not_lt, Int32.not_le] at h9; simp only [Int32.reduceToInt] at h9; omega
                      refine lv_aload_n hx hb dX12_backward_156 rfl (lv_at hl 4 rfl) ?_
                      refine va_get (D := D) (ci := 11) (v := .ref (ad 75)) (C := RX12) (T := TX12) (N := 85) hx hb hts inX12 hown hK hP 0 mwd_o0 rfl 75 (by decide) fl167 (fun _ h9 => h9) rfl dX12_backward_157 ?_
                      refine lv_iload_n hx hb dX12_backward_160 rfl (lv_at hl 2 rfl) ?_
                      refine va_lald hx hb hK hP 51 3 mwd_a51 rfl (x_in (by omega) (by omega)) dX12_backward_161 ?_
                      refine lv_topl (fun j_13 ej_13 => ?_)
                      have ej_13 : j_13 = f1 (Int32.toNatClampNeg i) := ej_13
                      have bj_13 := b_atJ hf1 ej_13
                      refine lv_goto (tgt := 171) hx hb dX12_backward_162 (by decide) ?_
                      exact x_lretW (v := j_13) (u := (n1, j1, j2, f1, f2)) hx hb hr hQ (by (try dsimp only); exact ⟨trivial, hf1, hf2⟩) hP hD hK hS dX12_backward_171 hlocks
                  · have kc_10 : n1.toInt ≠ 0 := by have h9 := c_10; simp only [ge_iff_le, gt_iff_lt, x_lt, x_le, x_eq, ne_eq, Int32.not_lt, Int32.not_le] at h9; simp only [Int32.reduceToInt] at h9; omega
                    refine lv_ldc2 (v := (-2000000000)) hx hb hown (hts (.constantLong RX12 406 (-2000000000)) (List.mem_of_getElem? (i := 7) rfl)) dX12_backward_146 ?_
                    refine lv_goto (tgt := 171) hx hb dX12_backward_149 (by decide) ?_
                    exact x_lretW (v := (-2000000000)) (u := (n1, j1, j2, f1, f2)) hx hb hr hQ (by (try dsimp only); exact ⟨trivial, hf1, hf2⟩) hP hD hK hS dX12_backward_171 hlocks
                · have kc_9 : j.toInt ≥ 0 := by have h9 := c_9; simp only [ge_iff_le, gt_iff_lt, x_lt, x_le, x_eq, ne_eq, Int32.not_lt, Int32.not_le] at h9; simp only [Int32.reduceToInt] at h9; omega
                  refine lv_aload_n hx hb dX12_backward_84 rfl (lv_at hl 4 rfl) ?_
                  refine va_get (D := D) (ci := 11) (v := .int n1) (C := RX12) (T := TX12) (N := 85) hx hb hts inX12 hown hK hP 0 mwd_o0 rfl 44 (by decide) fl384 (fun _ h9 => h9) rfl dX12_backward_85 ?_
                  refine lv_if_ne (tgt := 139) hx hb dX12_backward_88 (by decide) (fun c_14 => ?_) (fun c_14 => ?_)
                  · have kc_14 : n1.toInt ≠ 0 := by have h9 := c_14; simp only [ge_iff_le, gt_iff_lt, x_lt, x_le, x_eq, ne_eq, Int32.not_lt, Int32.not_le] at h9; simp only [Int32.reduceToInt] at h9; omega
                    refine lv_aload_n hx hb dX12_backward_139 rfl (lv_at hl 4 rfl) ?_
                    refine va_get (D := D) (ci := 11) (v := .int n1) (C := RX12) (T := TX12) (N := 85) hx hb hts inX12 hown hK hP 0 mwd_o0 rfl 44 (by decide) fl384 (fun _ h9 => h9) rfl dX12_backward_140 ?_
                    refine lv_if_eq (tgt := 152) hx hb dX12_backward_143 (by decide) (fun c_15 => ?_) (fun c_15 => ?_)
                    · have kc_15 : n1.toInt = 0 := by have h9 := c_15; simp only [ge_iff_le, gt_iff_lt, x_lt, x_le, x_eq, ne_eq, Int32.not_lt, Int32.not_le] at h9; simp only [Int32.reduceToInt] at h9; omega
                      refine lv_iload_n hx hb dX12_backward_152 rfl (lv_at hl 1 rfl) ?_
                      refine lv_if_eq (tgt := 165) hx hb dX12_backward_153 (by decide) (fun c_16 => ?_) (fun c_16 => ?_)
                      · have kc_16 : b.toInt = 0 := by have h9 := c_16; simp only [ge_iff_le, gt_iff_lt, x_lt, x_le, x_eq, ne_eq, Int32.not_lt, Int32.not_le] at h9; simp only [Int32.reduceToInt] at h9; omega
                        refine lv_aload_n hx hb dX12_backward_165 rfl (lv_at hl 4 rfl) ?_
                        refine va_get (D := D) (ci := 11) (v := .ref (ad 76)) (C := RX12) (T := TX12) (N := 85) hx hb hts inX12 hown hK hP 0 mwd_o0 rfl 76 (by decide) fl170 (fun _ h9 => h9) rfl dX12_backward_166 ?_
                        refine lv_iload_n hx hb dX12_backward_169 rfl (lv_at hl 2 rfl) ?_
                        refine va_lald hx hb hK hP 52 3 mwd_a52 rfl (x_in (by omega) (by omega)) dX12_backward_170 ?_
                        refine lv_topl (fun j_17 ej_17 => ?_)
                        have ej_17 : j_17 = f2 (Int32.toNatClampNeg i) := ej_17
                        have bj_17 := b_atJ hf2 ej_17
                        exact x_lretW (v := j_17) (u := (n1, j1, j2, f1, f2)) hx hb hr hQ (by (try dsimp only); exact ⟨trivial, hf1, hf2⟩) hP hD hK hS dX12_backward_171 hlocks
                      · have kc_16 : b.toInt ≠ 0 := by have h9 := c_16; simp only [ge_iff_le, gt_iff_lt, x_lt, x_le, x_eq, ne_eq, Int32.not_lt, Int32.not_le] at h9; simp only [Int32.reduceToInt] at h9; omega
                        refine lv_aload_n hx hb dX12_backward_156 rfl (lv_at hl 4 rfl) ?_
                        refine va_get (D := D) (ci := 11) (v := .ref (ad 75)) (C := RX12) (T := TX12) (N := 85) hx hb hts inX12 hown hK hP 0 mwd_o0 rfl 75 (by decide) fl167 (fun _ h9 => h9) rfl dX12_backward_157 ?_
                        refine lv_iload_n hx hb dX12_backward_160 rfl (lv_at hl 2 rfl) ?_
                        refine va_lald hx hb hK hP 51 3 mwd_a51 rfl (x_in (by omega) (by omega)) dX12_backward_161 ?_
                        refine lv_topl (fun j_18 ej_18 => ?_)
                        have ej_18 : j_18 = f1 (Int32.toNatClampNeg i) := ej_18
                        have bj_18 := b_atJ hf1 ej_18
                        refine lv_goto (tgt := 171) hx hb dX12_backward_162 (by decide) ?_
                        exact x_lretW (v := j_18) (u := (n1, j1, j2, f1, f2)) hx hb hr hQ (by (try dsimp only); exact ⟨trivial, hf1, hf2⟩) hP hD hK hS dX12_backward_171 hlocks
                    · have kc_15 : n1.toInt ≠ 0 := by have h9 := c_15; simp only [ge_iff_le, gt_iff_lt, x_lt, x_le, x_eq, ne_eq, Int32.not_lt, Int32.not_le] at h9; simp only [Int32.reduceToInt] at h9; omega
                      refine lv_ldc2 (v := (-2000000000)) hx hb hown (hts (.constantLong RX12 406 (-2000000000)) (List.mem_of_getElem? (i := 7) rfl)) dX12_backward_146 ?_
                      refine lv_goto (tgt := 171) hx hb dX12_backward_149 (by decide) ?_
                      exact x_lretW (v := (-2000000000)) (u := (n1, j1, j2, f1, f2)) hx hb hr hQ (by (try dsimp only); exact ⟨trivial, hf1, hf2⟩) hP hD hK hS dX12_backward_171 hlocks
                  · have kc_14 : n1.toInt = 0 := by have h9 := c_14; simp only [ge_iff_le, gt_iff_lt, x_lt, x_le, x_eq, ne_eq, Int32.not_lt, Int32.not_le] at h9; simp only [Int32.reduceToInt] at h9; omega
                    refine lv_aload_n hx hb dX12_backward_91 rfl (lv_at hl 4 rfl) ?_
                    refine va_get (D := D) (ci := 11) (v := .ref (ad 59)) (C := RX12) (T := TX12) (N := 85) hx hb hts inX12 hown hK hP 0 mwd_o0 rfl 59 (by decide) fl130 (fun _ h9 => h9) rfl dX12_backward_92 ?_
                    refine lv_iload hx hb dX12_backward_95 (lv_at hl 0 rfl) ?_
                    refine va_iald hx hb hK hP 39 2 mwd_a39 rfl (x_in (by omega) (by omega)) dX12_backward_97 ?_
                    refine lv_topi (fun i_19 ei_19 => ?_)
                    have ei_19 : i_19 = (σ.2.2.1 59) (Int32.toNatClampNeg j) := ei_19
                    refine lv_if_eq (tgt := 133) hx hb dX12_backward_98 (by decide) (fun c_20 => ?_) (fun c_20 => ?_)
                    · have kc_20 : i_19.toInt = 0 := by have h9 := c_20; simp only [ge_iff_le, gt_iff_lt, x_lt, x_le, x_eq, ne_eq, Int32.not_lt, Int32.not_le] at h9; simp only [Int32.reduceToInt] at h9; omega
                      obtain ⟨i_21, ei_21⟩ : ∃ z9 : Int32, z9 = j + (-1) := ⟨_, rfl⟩
                      have vi_21 : i_21.toInt = j.toInt + (-1) := by have h9 := x_add ei_21 (by omega) (by omega); omega
                      refine lv_iinc (v := i_21) (lv' := [(4, .int i_21), (3, .int b), (2, .int i), (1, .int k), (0, .ref (ad 1))]) hx hb dX12_backward_133 hl (k := 0) rfl (by rw [ei_21]; rfl) (by decide) rfl (fun ls hl => ?_)
                      refine lv_goto (tgt := 79) hx hb dX12_backward_136 (by decide) ?_
                      exact ih_loop2 i_21 n1 j1 j2 f1 f2 H locs ls (by omega) (by omega) hf1 hf2 (by omega) hP hD hS (lv_sub hl [0, 1, 2, 3, 4] rfl)
                    · have kc_20 : i_19.toInt ≠ 0 := by have h9 := c_20; simp only [ge_iff_le, gt_iff_lt, x_lt, x_le, x_eq, ne_eq, Int32.not_lt, Int32.not_le] at h9; simp only [Int32.reduceToInt] at h9; omega
                      refine lv_aload_n hx hb dX12_backward_101 rfl (lv_at hl 4 rfl) ?_
                      refine va_get (D := D) (ci := 11) (v := .ref (ad 75)) (C := RX12) (T := TX12) (N := 85) hx hb hts inX12 hown hK hP 0 mwd_o0 rfl 75 (by decide) fl167 (fun _ h9 => h9) rfl dX12_backward_102 ?_
                      refine lv_iload hx hb dX12_backward_105 (lv_at hl 0 rfl) ?_
                      refine va_lald hx hb hK hP 51 3 mwd_a51 rfl (x_in (by omega) (by omega)) dX12_backward_107 ?_
                      refine lv_topl (fun j_22 ej_22 => ?_)
                      have ej_22 : j_22 = f1 (Int32.toNatClampNeg j) := ej_22
                      have bj_22 := b_atJ hf1 ej_22
                      refine lv_lconst (v := 0) hx hb dX12_backward_108 (by decide) ?_
                      refine W.lcmp hx hb dX12_backward_109 ?_
                      refine lv_if_eq (tgt := 133) hx hb dX12_backward_110 (by decide) (fun c_23 => ?_) (fun c_23 => ?_)
                      · have kc_23 : j_22.toInt = 0 := by have h9 := x_tri j_22 (0 : Int64); (try simp only [Int64.reduceToInt] at h9); rcases h9 with ⟨g1, g2⟩ | ⟨g1, g2⟩ | ⟨g1, g2⟩ <;> first | omega | (exfalso; rw [g1] at c_23; revert c_23; decide)
                        obtain ⟨i_24, ei_24⟩ : ∃ z9 : Int32, z9 = j + (-1) := ⟨_, rfl⟩
                        have vi_24 : i_24.toInt = j.toInt + (-1) := by have h9 := x_add ei_24 (by omega) (by omega); omega
                        refine lv_iinc (v := i_24) (lv' := [(4, .int i_24), (3, .int b), (2, .int i), (1, .int k), (0, .ref (ad 1))]) hx hb dX12_backward_133 hl (k := 0) rfl (by rw [ei_24]; rfl) (by decide) rfl (fun ls hl => ?_)
                        refine lv_goto (tgt := 79) hx hb dX12_backward_136 (by decide) ?_
                        exact ih_loop2 i_24 n1 j1 j2 f1 f2 H locs ls (by omega) (by omega) hf1 hf2 (by omega) hP hD hS (lv_sub hl [0, 1, 2, 3, 4] rfl)
                      · have kc_23 : j_22.toInt ≠ 0 := by have h9 := x_tri j_22 (0 : Int64); (try simp only [Int64.reduceToInt] at h9); rcases h9 with ⟨g1, g2⟩ | ⟨g1, g2⟩ | ⟨g1, g2⟩ <;> first | omega | (exfalso; rw [g1] at c_23; revert c_23; decide)
                        refine lv_aload_n hx hb dX12_backward_113 rfl (lv_at hl 4 rfl) ?_
                        refine lv_iload hx hb dX12_backward_114 (lv_at hl 0 rfl) ?_
                        refine lv_aload_n hx hb dX12_backward_116 rfl (lv_at hl 4 rfl) ?_
                        refine va_get (D := D) (ci := 11) (v := .ref (ad 75)) (C := RX12) (T := TX12) (N := 85) hx hb hts inX12 hown hK hP 0 mwd_o0 rfl 75 (by decide) fl167 (fun _ h9 => h9) rfl dX12_backward_117 ?_
                        refine lv_iload hx hb dX12_backward_120 (lv_at hl 0 rfl) ?_
                        refine va_lald hx hb hK hP 51 3 mwd_a51 rfl (x_in (by omega) (by omega)) dX12_backward_122 ?_
                        refine lv_topl (fun j_25 ej_25 => ?_)
                        have ej_25 : j_25 = f1 (Int32.toNatClampNeg j) := ej_25
                        have bj_25 := b_atJ hf1 ej_25
                        refine lv_aload_n hx hb dX12_backward_123 rfl (lv_at hl 4 rfl) ?_
                        refine va_get (D := D) (ci := 11) (v := .ref (ad 76)) (C := RX12) (T := TX12) (N := 85) hx hb hts inX12 hown hK hP 0 mwd_o0 rfl 76 (by decide) fl170 (fun _ h9 => h9) rfl dX12_backward_124 ?_
                        refine lv_iload hx hb dX12_backward_127 (lv_at hl 0 rfl) ?_
                        refine va_lald hx hb hK hP 52 3 mwd_a52 rfl (x_in (by omega) (by omega)) dX12_backward_129 ?_
                        refine lv_topl (fun j_26 ej_26 => ?_)
                        have ej_26 : j_26 = f2 (Int32.toNatClampNeg j) := ej_26
                        have bj_26 := b_atJ hf2 ej_26
                        refine x_callvW (va_runV (As := [.int j, .long j_25, .long j_26]) (rest := []) ⟨hx, hb, hml, hown, hts⟩ (q_goesBack l D y H.size ad zw (tJ (tJ (sJ (sJ (sI σ 44 n1) 42 j1) 43 j2) 75 f1) 76 f2) j j_25 j_26 (by first | omega | decide) (by first | omega | decide) (x_ne0 ei_19 kc_20) (by first | omega | decide) (by first | omega | decide) (by first | omega | decide) (by first | omega | decide) hop hf1 hf2 hB57 hB58) (cwV 3 hts g_q_backward_2 rfl rfl rfl (by decide +kernel) ⟨Nat.le_of_ble_eq_true rfl, Nat.le_of_ble_eq_true rfl⟩) (x_preV (q := (RX12, TX12, 85)) hK hP hD (ci := 11) (q0 := 0) rfl mwd_o0) rfl rfl hl.1 rfl (lv_room (Nat.le_of_ble_eq_true rfl)) dX12_backward_130 ⟨Nat.le_of_ble_eq_true rfl, Nat.le_of_ble_eq_true rfl⟩) hP hD hS hA (fun u H locs hw hP hD hS => ?_)
                        obtain ⟨n_27, j_28, j_29, f_30, f_31⟩ := u
                        try dsimp only at hw
                        have hP : va_P D vwCl (mwd y ad zw (tJ (tJ (sJ (sJ (sI (tJ (tJ (sJ (sJ (sI σ 44 n1) 42 j1) 43 j2) 75 f1) 76 f2) 44 n_27) 42 j_28) 43 j_29) 75 f_30) 76 f_31)) H := hP
                        have hD : va_D A (mwd y ad zw (tJ (tJ (sJ (sJ (sI (tJ (tJ (sJ (sJ (sI σ 44 n1) 42 j1) 43 j2) 75 f1) 76 f2) 44 n_27) 42 j_28) 43 j_29) 75 f_30) 76 f_31)) := hD
                        have hw : (True) ∧ bJ f_30 (-1000000000) 1000000000 ∧ bJ f_31 0 1000000000 := hw
                        obtain ⟨hw, hg_32, hg_33⟩ := hw
                        obtain ⟨i_34, ei_34⟩ : ∃ z9 : Int32, z9 = j + (-1) := ⟨_, rfl⟩
                        have vi_34 : i_34.toInt = j.toInt + (-1) := by have h9 := x_add ei_34 (by omega) (by omega); omega
                        refine lv_iinc (v := i_34) (lv' := [(4, .int i_34), (3, .int b), (2, .int i), (1, .int k), (0, .ref (ad 1))]) hx hb dX12_backward_133 hl (k := 0) rfl (by rw [ei_34]; rfl) (by decide) rfl (fun ls hl => ?_)
                        refine lv_goto (tgt := 79) hx hb dX12_backward_136 (by decide) ?_
                        have hP : va_P D vwCl (mwd y ad zw (tJ (tJ (sJ (sJ (sI σ 44 n_27) 42 j_28) 43 j_29) 75 f_30) 76 f_31)) H := hP
                        have hD : va_D A (mwd y ad zw (tJ (tJ (sJ (sJ (sI σ 44 n_27) 42 j_28) 43 j_29) 75 f_30) 76 f_31)) := hD
                        exact ih_loop2 i_34 n_27 j_28 j_29 f_30 f_31 H locs ls (by omega) (by omega) hg_32 hg_33 (by omega) hP hD hS (lv_sub hl [0, 1, 2, 3, 4] rfl)
            exact loop2 1761 i_8 0 (σ.2.1 42) (σ.2.1 43) f1 f2 H locs ls (by omega) (by omega) hf1 hf2 (by omega) hP hD hS (lv_sub hl [0, 1, 2, 3, 4] rfl)
          · have kc_6 : j.toInt < i_5.toInt := by have h9 := c_6; simp only [ge_iff_le, gt_iff_lt, x_lt, x_le, x_eq, ne_eq, Int32.not_lt, Int32.not_le] at h9; omega
            refine lv_aload_n hx hb dX12_backward_34 rfl (lv_at hl 4 rfl) ?_
            refine lv_iconst (v := 0) hx hb dX12_backward_35 (by decide) ?_
            refine lv_iload hx hb dX12_backward_36 (lv_at hl 0 rfl) ?_
            refine lv_iload hx hb dX12_backward_38 (lv_at hl 0 rfl) ?_
            refine lv_aload_n hx hb dX12_backward_40 rfl (lv_at hl 4 rfl) ?_
            refine va_get (D := D) (ci := 11) (v := .ref (ad 65)) (C := RX12) (T := TX12) (N := 85) hx hb hts inX12 hown hK hP 0 mwd_o0 rfl 65 (by decide) fl148 (fun _ h9 => h9) rfl dX12_backward_41 ?_
            refine lv_iload_n hx hb dX12_backward_44 rfl (lv_at hl 3 rfl) ?_
            refine va_iald hx hb hK hP 45 2 mwd_a45 rfl (x_in (by omega) (by omega)) dX12_backward_45 ?_
            refine lv_topi (fun i_35 ei_35 => ?_)
            have ei_35 : i_35 = (σ.2.2.1 65) (Int32.toNatClampNeg k) := ei_35
            have bi_35 := b_at hB65 ei_35
            refine lv_icmp_ne (tgt := 53) hx hb dX12_backward_46 (by decide) (fun c_36 => ?_) (fun c_36 => ?_)
            · have kc_36 : j.toInt ≠ i_35.toInt := by have h9 := c_36; simp only [ge_iff_le, gt_iff_lt, x_lt, x_le, x_eq, ne_eq, Int32.not_lt, Int32.not_le] at h9; omega
              refine lv_lconst (v := 0) hx hb dX12_backward_53 (by decide) ?_
              refine lv_lconst (v := 1) hx hb dX12_backward_54 (by decide) ?_
              refine x_callvW (va_runV (As := [.int 0, .int j, .long 0, .long 1]) (rest := []) ⟨hx, hb, hml, hown, hts⟩ (q_lets0 l D y H.size ad zw (tJ (tJ σ 75 f1) 76 f2) j 0 1 (by first | omega | decide) (by first | omega | decide) (by first | omega | decide) (by first | omega | decide) (by first | omega | decide) (by first | omega | decide) hf1 hf2) (cwV 4 hts g_q_backward_3 rfl rfl rfl (by decide +kernel) ⟨Nat.le_of_ble_eq_true rfl, Nat.le_of_ble_eq_true rfl⟩) (x_preV (q := (RX12, TX12, 85)) hK hP hD (ci := 11) (q0 := 0) rfl mwd_o0) rfl rfl hl.1 rfl (lv_room (Nat.le_of_ble_eq_true rfl)) dX12_backward_55 ⟨Nat.le_of_ble_eq_true rfl, Nat.le_of_ble_eq_true rfl⟩) hP hD hS hA (fun u H locs hw hP hD hS => ?_)
              obtain ⟨f_37, f_38⟩ := u
              try dsimp only at hw
              have hP : va_P D vwCl (mwd y ad zw (tJ (tJ (tJ (tJ σ 75 f1) 76 f2) 75 f_37) 76 f_38)) H := hP
              have hD : va_D A (mwd y ad zw (tJ (tJ (tJ (tJ σ 75 f1) 76 f2) 75 f_37) 76 f_38)) := hD
              have hw : (True) ∧ bJ f_37 (-1000000000) 1000000000 ∧ bJ f_38 0 1000000000 := hw
              obtain ⟨hw, hg_39, hg_40⟩ := hw
              obtain ⟨i_41, ei_41⟩ : ∃ z9 : Int32, z9 = j + 1 := ⟨_, rfl⟩
              have vi_41 : i_41.toInt = j.toInt + 1 := by have h9 := x_add ei_41 (by omega) (by omega); omega
              refine lv_iinc (v := i_41) (lv' := [(4, .int i_41), (3, .int b), (2, .int i), (1, .int k), (0, .ref (ad 1))]) hx hb dX12_backward_58 hl (k := 0) rfl (by rw [ei_41]; rfl) (by decide) rfl (fun ls hl => ?_)
              refine lv_goto (tgt := 23) hx hb dX12_backward_61 (by decide) ?_
              have hP : va_P D vwCl (mwd y ad zw (tJ (tJ σ 75 f_37) 76 f_38)) H := hP
              have hD : va_D A (mwd y ad zw (tJ (tJ σ 75 f_37) 76 f_38)) := hD
              exact ih_loop i_41 f_37 f_38 H locs ls (by omega) (by omega) hg_39 hg_40 (by omega) hP hD hS (lv_sub hl [0, 1, 2, 3, 4] rfl)
            · have kc_36 : j.toInt = i_35.toInt := by have h9 := c_36; simp only [ge_iff_le, gt_iff_lt, x_lt, x_le, x_eq, ne_eq, Int32.not_lt, Int32.not_le] at h9; omega
              refine lv_lconst (v := 1) hx hb dX12_backward_49 (by decide) ?_
              refine lv_goto (tgt := 54) hx hb dX12_backward_50 (by decide) ?_
              refine lv_lconst (v := 1) hx hb dX12_backward_54 (by decide) ?_
              refine x_callvW (va_runV (As := [.int 0, .int j, .long 1, .long 1]) (rest := []) ⟨hx, hb, hml, hown, hts⟩ (q_lets0 l D y H.size ad zw (tJ (tJ σ 75 f1) 76 f2) j 1 1 (by first | omega | decide) (by first | omega | decide) (by first | omega | decide) (by first | omega | decide) (by first | omega | decide) (by first | omega | decide) hf1 hf2) (cwV 4 hts g_q_backward_3 rfl rfl rfl (by decide +kernel) ⟨Nat.le_of_ble_eq_true rfl, Nat.le_of_ble_eq_true rfl⟩) (x_preV (q := (RX12, TX12, 85)) hK hP hD (ci := 11) (q0 := 0) rfl mwd_o0) rfl rfl hl.1 rfl (lv_room (Nat.le_of_ble_eq_true rfl)) dX12_backward_55 ⟨Nat.le_of_ble_eq_true rfl, Nat.le_of_ble_eq_true rfl⟩) hP hD hS hA (fun u H locs hw hP hD hS => ?_)
              obtain ⟨f_42, f_43⟩ := u
              try dsimp only at hw
              have hP : va_P D vwCl (mwd y ad zw (tJ (tJ (tJ (tJ σ 75 f1) 76 f2) 75 f_42) 76 f_43)) H := hP
              have hD : va_D A (mwd y ad zw (tJ (tJ (tJ (tJ σ 75 f1) 76 f2) 75 f_42) 76 f_43)) := hD
              have hw : (True) ∧ bJ f_42 (-1000000000) 1000000000 ∧ bJ f_43 0 1000000000 := hw
              obtain ⟨hw, hg_44, hg_45⟩ := hw
              obtain ⟨i_46, ei_46⟩ : ∃ z9 : Int32, z9 = j + 1 := ⟨_, rfl⟩
              have vi_46 : i_46.toInt = j.toInt + 1 := by have h9 := x_add ei_46 (by omega) (by omega); omega
              refine lv_iinc (v := i_46) (lv' := [(4, .int i_46), (3, .int b), (2, .int i), (1, .int k), (0, .ref (ad 1))]) hx hb dX12_backward_58 hl (k := 0) rfl (by rw [ei_46]; rfl) (by decide) rfl (fun ls hl => ?_)
              refine lv_goto (tgt := 23) hx hb dX12_backward_61 (by decide) ?_
              have hP : va_P D vwCl (mwd y ad zw (tJ (tJ σ 75 f_42) 76 f_43)) H := hP
              have hD : va_D A (mwd y ad zw (tJ (tJ σ 75 f_42) 76 f_43)) := hD
              exact ih_loop i_46 f_42 f_43 H locs ls (by omega) (by omega) hg_44 hg_45 (by omega) hP hD hS (lv_sub hl [0, 1, 2, 3, 4] rfl)
      exact loop 1761 0 (σ.2.2.2 75) (σ.2.2.2 76) H locs ls (by decide) (by decide) hB75 hB76 (by omega) hP hD hS (lv_sub hl [0, 4, 3, 2, 1] rfl)
    · have kc_4 : r_3.toInt = 0 := by have h9 := c_4; simp only [ge_iff_le, gt_iff_lt, x_lt, x_le, x_eq, ne_eq, Int32.not_lt, Int32.not_le] at h9; simp only [Int32.reduceToInt] at h9; omega
      refine lv_ldc2 (v := (-2000000000)) hx hb hown (hts (.constantLong RX12 406 (-2000000000)) (List.mem_of_getElem? (i := 7) rfl)) dX12_backward_16 ?_
      have hP : va_P D vwCl (mwd y ad zw (tJ (tJ (sJ (sJ (sI σ 44 (σ.1 44)) 42 (σ.2.1 42)) 43 (σ.2.1 43)) 75 (σ.2.2.2 75)) 76 (σ.2.2.2 76))) H := hP
      have hD : va_D A (mwd y ad zw (tJ (tJ (sJ (sJ (sI σ 44 (σ.1 44)) 42 (σ.2.1 42)) 43 (σ.2.1 43)) 75 (σ.2.2.2 75)) 76 (σ.2.2.2 76))) := hD
      exact x_lretW (v := (-2000000000)) (u := ((σ.1 44), (σ.2.1 42), (σ.2.1 43), (σ.2.2.2 75), (σ.2.2.2 76))) hx hb hr hQ (by (try dsimp only); exact ⟨trivial, hB75, hB76⟩) hP hD hK hS dX12_backward_19 hlocks

def v_q_twice : List Cond := .code yX12_twice cX12_twice 6 (some .long) :: ([.fieldLink RX12 384 "SlopeRunnerModel" "isStuck" "Z", .fieldLink RX12 139 "SlopeRunnerModel" "laid" "[I", .fieldLink RX12 170 "SlopeRunnerModel" "slopeDown" "[J", .fieldLink RX12 148 "SlopeRunnerModel" "resultAt" "[I", .fieldLink RX12 167 "SlopeRunnerModel" "slopeUp" "[J", .fieldLink RX12 163 "SlopeRunnerModel" "hangs" "[Z", .fieldLink RX12 130 "SlopeRunnerModel" "op" "[I", .constantLong RX12 406 (-2000000000)] ++ ((wsV RX12 454 RX12 yX12_isResult v_q_isResult) ++ ((wsV RX12 464 RX12 yX12_isInput v_q_isInput) ++ ((wsV RX12 467 RX12 yX12_marks v_q_marks) ++ ((wsV RX12 470 RX12 yX12_slopes v_q_slopes0) ++ ((wsV RX12 470 RX12 yX12_slopes v_q_slopes1) ++ ((wsV RX12 457 RX12 yX12_lets v_q_lets2) ++ ((wsV RX12 481 RX12 yX12_bends v_q_bends) ++ wsX120))))))))
theorem g_q_twice_0 : GoodIn v_q_twice (wsV RX12 454 RX12 yX12_isResult v_q_isResult) := goodIn_sub (fun w h => List.mem_cons_of_mem _ (List.mem_append_right _ (List.mem_append_left _ h))) (by decide +kernel)
theorem g_q_twice_1 : GoodIn v_q_twice (wsV RX12 464 RX12 yX12_isInput v_q_isInput) := goodIn_sub (fun w h => List.mem_cons_of_mem _ (List.mem_append_right _ (List.mem_append_right _ (List.mem_append_left _ h)))) (by decide +kernel)
theorem g_q_twice_2 : GoodIn v_q_twice (wsV RX12 467 RX12 yX12_marks v_q_marks) := goodIn_sub (fun w h => List.mem_cons_of_mem _ (List.mem_append_right _ (List.mem_append_right _ (List.mem_append_right _ (List.mem_append_left _ h))))) (by decide +kernel)
theorem g_q_twice_3 : GoodIn v_q_twice (wsV RX12 470 RX12 yX12_slopes v_q_slopes0) := goodIn_sub (fun w h => List.mem_cons_of_mem _ (List.mem_append_right _ (List.mem_append_right _ (List.mem_append_right _ (List.mem_append_right _ (List.mem_append_left _ h)))))) (by decide +kernel)
theorem g_q_twice_4 : GoodIn v_q_twice (wsV RX12 470 RX12 yX12_slopes v_q_slopes1) := goodIn_sub (fun w h => List.mem_cons_of_mem _ (List.mem_append_right _ (List.mem_append_right _ (List.mem_append_right _ (List.mem_append_right _ (List.mem_append_right _ (List.mem_append_left _ h))))))) (by decide +kernel)
theorem g_q_twice_5 : GoodIn v_q_twice (wsV RX12 457 RX12 yX12_lets v_q_lets2) := goodIn_sub (fun w h => List.mem_cons_of_mem _ (List.mem_append_right _ (List.mem_append_right _ (List.mem_append_right _ (List.mem_append_right _ (List.mem_append_right _ (List.mem_append_right _ (List.mem_append_left _ h)))))))) (by decide +kernel)
theorem g_q_twice_6 : GoodIn v_q_twice (wsV RX12 481 RX12 yX12_bends v_q_bends) := goodIn_sub (fun w h => List.mem_cons_of_mem _ (List.mem_append_right _ (List.mem_append_right _ (List.mem_append_right _ (List.mem_append_right _ (List.mem_append_right _ (List.mem_append_right _ (List.mem_append_right _ (List.mem_append_left _ h))))))))) (by decide +kernel)
set_option maxHeartbeats 4000000 in
set_option maxRecDepth 100000 in
theorem q_twice (l : Launch) (D : va_G) (y : Nat → ClassId) (sz : Nat) (ad : Nat → Nat) (zw : Nat → Nat → Int32) (σ : OS) (k i j b : Int32) (h5 : 0 ≤ (σ.2.2.1 24 5).toInt ∧ (σ.2.2.1 24 5).toInt ≤ 8) (hop : opc (σ.2.2.1 59) (σ.2.2.1 60) (σ.2.2.1 61)) (hB75 : bJ (σ.2.2.2 75) (-1000000000) 1000000000) (hB76 : bJ (σ.2.2.2 76) 0 1000000000) (hB57 : bJ (σ.2.2.2 57) (-1000000000) 1000000000) (hB58 : bJ (σ.2.2.2 58) 0 1000000000) (hB62 : bI (σ.2.2.1 62) 0 1760) (hB65 : bI (σ.2.2.1 65) 0 1759) (hB64 : bI (σ.2.2.1 64) 0 12) : Met l yX12_twice v_q_twice ({ frames := 6, cells := 0, slots := 0, locals := 168 } : Room) (va_Pc [.ref (ad 1), .int k, .int i, .int j, .int b] (xPre D (xT y) (mwd y ad zw σ) sz)) (va_Ql (fun (r : Int64) (u : (Nat → Int32) × Int32 × Int64 × Int64 × (Nat → Int64) × (Nat → Int64)) => (True) ∧ bJ u.2.2.2.2.1 (-1000000000) 1000000000 ∧ bJ u.2.2.2.2.2 0 1000000000) (fun (u : (Nat → Int32) × Int32 × Int64 × Int64 × (Nat → Int64) × (Nat → Int64)) => xB D (xT y) (va_A (mwd y ad zw σ) sz) (mwd y ad zw (tJ (tJ (sJ (sJ (sI (tI σ 74 u.1) 44 u.2.1) 42 u.2.2.1) 43 u.2.2.2.1) 75 u.2.2.2.2.1) 76 u.2.2.2.2.2))) (va_A (mwd y ad zw σ) sz)) 0 0 (va_A (mwd y ad zw σ) sz) := by
  refine x_metl (cc := cX12_twice) (maxL := 6) (by decide) rfl (Nat.le_of_ble_eq_true rfl) ?_
  intro p e s m below meth c A H locs Q hx hb hml hown hts hr hlocks hmn hA hP hK hD hS ls hl hQ
  have hl : lv_has ls 6 [(0, .ref (ad 1)), (1, .int k), (2, .int i), (3, .int j), (4, .int b)] := hl
  have kk_0 : (0 : Int32).toInt = 0 := rfl
  have kk_1 : (1 : Int32).toInt = 1 := rfl
  have fl384 := hts (.fieldLink RX12 384 "SlopeRunnerModel" "isStuck" "Z") (List.mem_of_getElem? (i := 1) rfl)
  have inX12 : ∀ w ∈ wsX120, w ∈ v_q_twice := (fun w h => List.mem_cons_of_mem _ (List.mem_append_right _ (List.mem_append_right _ (List.mem_append_right _ (List.mem_append_right _ (List.mem_append_right _ (List.mem_append_right _ (List.mem_append_right _ (List.mem_append_right _ h)))))))))
  have fl139 := hts (.fieldLink RX12 139 "SlopeRunnerModel" "laid" "[I") (List.mem_of_getElem? (i := 2) rfl)
  have fl170 := hts (.fieldLink RX12 170 "SlopeRunnerModel" "slopeDown" "[J") (List.mem_of_getElem? (i := 3) rfl)
  have fl148 := hts (.fieldLink RX12 148 "SlopeRunnerModel" "resultAt" "[I") (List.mem_of_getElem? (i := 4) rfl)
  have kk_3520 : (3520 : Int32).toInt = 3520 := rfl
  have fl167 := hts (.fieldLink RX12 167 "SlopeRunnerModel" "slopeUp" "[J") (List.mem_of_getElem? (i := 5) rfl)
  have fl163 := hts (.fieldLink RX12 163 "SlopeRunnerModel" "hangs" "[Z") (List.mem_of_getElem? (i := 6) rfl)
  have kk_2 : (2 : Int32).toInt = 2 := rfl
  have kl_0 : (0 : Int64).toInt = 0 := rfl
  have kl_1 : (1 : Int64).toInt = 1 := rfl
  have fl130 := hts (.fieldLink RX12 130 "SlopeRunnerModel" "op" "[I") (List.mem_of_getElem? (i := 7) rfl)
  refine lv_aload_n hx hb dX12_twice_0 rfl (lv_at hl 0 rfl) ?_
  refine lv_iload_n hx hb dX12_twice_1 rfl (lv_at hl 1 rfl) ?_
  refine x_calliW (va_runV (As := [.int k]) (rest := []) ⟨hx, hb, hml, hown, hts⟩ (q_isResult l D y H.size ad zw σ k hB64) (cwV 1 hts g_q_twice_0 rfl rfl rfl (by decide +kernel) ⟨Nat.le_of_ble_eq_true rfl, Nat.le_of_ble_eq_true rfl⟩) (x_preV (q := (RX12, TX12, 85)) hK hP hD (ci := 11) (q0 := 0) rfl mwd_o0) rfl rfl hl.1 rfl (lv_room (Nat.le_of_ble_eq_true rfl)) dX12_twice_2 ⟨Nat.le_of_ble_eq_true rfl, Nat.le_of_ble_eq_true rfl⟩) hP hD hS hA (fun r_1 u H locs hw hP hD hS => ?_)
  try dsimp only at hw
  have hP : va_P D vwCl (mwd y ad zw σ) H := hP
  have hD : va_D A (mwd y ad zw σ) := hD
  refine lv_if_eq (tgt := 24) hx hb dX12_twice_5 (by decide) (fun c_2 => ?_) (fun c_2 => ?_)
  · have kc_2 : r_1.toInt = 0 := by have h9 := c_2; simp only [ge_iff_le, gt_iff_lt, x_lt, x_le, x_eq, ne_eq, Int32.not_lt, Int32.not_le] at h9; simp only [Int32.reduceToInt] at h9; omega
    refine lv_ldc2 (v := (-2000000000)) hx hb hown (hts (.constantLong RX12 406 (-2000000000)) (List.mem_of_getElem? (i := 8) rfl)) dX12_twice_24 ?_
    have hP : va_P D vwCl (mwd y ad zw (tJ (tJ (sJ (sJ (sI (tI σ 74 (σ.2.2.1 74)) 44 (σ.1 44)) 42 (σ.2.1 42)) 43 (σ.2.1 43)) 75 (σ.2.2.2 75)) 76 (σ.2.2.2 76))) H := hP
    have hD : va_D A (mwd y ad zw (tJ (tJ (sJ (sJ (sI (tI σ 74 (σ.2.2.1 74)) 44 (σ.1 44)) 42 (σ.2.1 42)) 43 (σ.2.1 43)) 75 (σ.2.2.2 75)) 76 (σ.2.2.2 76))) := hD
    exact x_lretW (v := (-2000000000)) (u := ((σ.2.2.1 74), (σ.1 44), (σ.2.1 42), (σ.2.1 43), (σ.2.2.2 75), (σ.2.2.2 76))) hx hb hr hQ (by (try dsimp only); exact ⟨trivial, hB75, hB76⟩) hP hD hK hS dX12_twice_27 hlocks
  · have kc_2 : r_1.toInt ≠ 0 := by have h9 := c_2; simp only [ge_iff_le, gt_iff_lt, x_lt, x_le, x_eq, ne_eq, Int32.not_lt, Int32.not_le] at h9; simp only [Int32.reduceToInt] at h9; omega
    refine lv_aload_n hx hb dX12_twice_8 rfl (lv_at hl 0 rfl) ?_
    refine lv_iload_n hx hb dX12_twice_9 rfl (lv_at hl 2 rfl) ?_
    refine x_calliW (va_runV (As := [.int i]) (rest := []) ⟨hx, hb, hml, hown, hts⟩ (q_isInput l D y H.size ad zw σ i h5) (cwV 1 hts g_q_twice_1 rfl rfl rfl (by decide +kernel) ⟨Nat.le_of_ble_eq_true rfl, Nat.le_of_ble_eq_true rfl⟩) (x_preV (q := (RX12, TX12, 85)) hK hP hD (ci := 11) (q0 := 0) rfl mwd_o0) rfl rfl hl.1 rfl (lv_room (Nat.le_of_ble_eq_true rfl)) dX12_twice_10 ⟨Nat.le_of_ble_eq_true rfl, Nat.le_of_ble_eq_true rfl⟩) hP hD hS hA (fun r_3 u H locs hw hP hD hS => ?_)
    try dsimp only at hw
    have hP : va_P D vwCl (mwd y ad zw σ) H := hP
    have hD : va_D A (mwd y ad zw σ) := hD
    refine lv_if_eq (tgt := 24) hx hb dX12_twice_13 (by decide) (fun c_4 => ?_) (fun c_4 => ?_)
    · have kc_4 : r_3.toInt = 0 := by have h9 := c_4; simp only [ge_iff_le, gt_iff_lt, x_lt, x_le, x_eq, ne_eq, Int32.not_lt, Int32.not_le] at h9; simp only [Int32.reduceToInt] at h9; omega
      refine lv_ldc2 (v := (-2000000000)) hx hb hown (hts (.constantLong RX12 406 (-2000000000)) (List.mem_of_getElem? (i := 8) rfl)) dX12_twice_24 ?_
      have hP : va_P D vwCl (mwd y ad zw (tJ (tJ (sJ (sJ (sI (tI σ 74 (σ.2.2.1 74)) 44 (σ.1 44)) 42 (σ.2.1 42)) 43 (σ.2.1 43)) 75 (σ.2.2.2 75)) 76 (σ.2.2.2 76))) H := hP
      have hD : va_D A (mwd y ad zw (tJ (tJ (sJ (sJ (sI (tI σ 74 (σ.2.2.1 74)) 44 (σ.1 44)) 42 (σ.2.1 42)) 43 (σ.2.1 43)) 75 (σ.2.2.2 75)) 76 (σ.2.2.2 76))) := hD
      exact x_lretW (v := (-2000000000)) (u := ((σ.2.2.1 74), (σ.1 44), (σ.2.1 42), (σ.2.1 43), (σ.2.2.2 75), (σ.2.2.2 76))) hx hb hr hQ (by (try dsimp only); exact ⟨trivial, hB75, hB76⟩) hP hD hK hS dX12_twice_27 hlocks
    · have kc_4 : r_3.toInt ≠ 0 := by have h9 := c_4; simp only [ge_iff_le, gt_iff_lt, x_lt, x_le, x_eq, ne_eq, Int32.not_lt, Int32.not_le] at h9; simp only [Int32.reduceToInt] at h9; omega
      refine lv_aload_n hx hb dX12_twice_16 rfl (lv_at hl 0 rfl) ?_
      refine lv_iload_n hx hb dX12_twice_17 rfl (lv_at hl 3 rfl) ?_
      refine x_calliW (va_runV (As := [.int j]) (rest := []) ⟨hx, hb, hml, hown, hts⟩ (q_isInput l D y H.size ad zw σ j h5) (cwV 1 hts g_q_twice_1 rfl rfl rfl (by decide +kernel) ⟨Nat.le_of_ble_eq_true rfl, Nat.le_of_ble_eq_true rfl⟩) (x_preV (q := (RX12, TX12, 85)) hK hP hD (ci := 11) (q0 := 0) rfl mwd_o0) rfl rfl hl.1 rfl (lv_room (Nat.le_of_ble_eq_true rfl)) dX12_twice_18 ⟨Nat.le_of_ble_eq_true rfl, Nat.le_of_ble_eq_true rfl⟩) hP hD hS hA (fun r_5 u H locs hw hP hD hS => ?_)
      try dsimp only at hw
      have hP : va_P D vwCl (mwd y ad zw σ) H := hP
      have hD : va_D A (mwd y ad zw σ) := hD
      refine lv_if_ne (tgt := 28) hx hb dX12_twice_21 (by decide) (fun c_6 => ?_) (fun c_6 => ?_)
      · have kc_6 : r_5.toInt ≠ 0 := by have h9 := c_6; simp only [ge_iff_le, gt_iff_lt, x_lt, x_le, x_eq, ne_eq, Int32.not_lt, Int32.not_le] at h9; simp only [Int32.reduceToInt] at h9; omega
        refine lv_aload_n hx hb dX12_twice_28 rfl (lv_at hl 0 rfl) ?_
        refine lv_iload_n hx hb dX12_twice_29 rfl (lv_at hl 1 rfl) ?_
        refine x_callvW (va_runV (As := [.int k]) (rest := []) ⟨hx, hb, hml, hown, hts⟩ (q_marks l D y H.size ad zw σ k (by first | omega | decide) (by first | omega | decide) hop hB62 hB65) (cwV 1 hts g_q_twice_2 rfl rfl rfl (by decide +kernel) ⟨Nat.le_of_ble_eq_true rfl, Nat.le_of_ble_eq_true rfl⟩) (x_preV (q := (RX12, TX12, 85)) hK hP hD (ci := 11) (q0 := 0) rfl mwd_o0) rfl rfl hl.1 rfl (lv_room (Nat.le_of_ble_eq_true rfl)) dX12_twice_30 ⟨Nat.le_of_ble_eq_true rfl, Nat.le_of_ble_eq_true rfl⟩) hP hD hS hA (fun u H locs hw hP hD hS => ?_)
        obtain ⟨f_7, rfl⟩ : ∃ z9, z9 = u := ⟨_, rfl⟩
        try dsimp only at hw
        have hP : va_P D vwCl (mwd y ad zw (tI σ 74 f_7)) H := hP
        have hD : va_D A (mwd y ad zw (tI σ 74 f_7)) := hD
        refine lv_aload_n hx hb dX12_twice_33 rfl (lv_at hl 0 rfl) ?_
        refine lv_iload_n hx hb dX12_twice_34 rfl (lv_at hl 1 rfl) ?_
        refine lv_iload_n hx hb dX12_twice_35 rfl (lv_at hl 2 rfl) ?_
        refine lv_iconst (v := 0) hx hb dX12_twice_36 (by decide) ?_
        refine x_calliW (va_runV (As := [.int k, .int i, .int 0]) (rest := []) ⟨hx, hb, hml, hown, hts⟩ (q_slopes0 l D y H.size ad zw (tI σ 74 f_7) k i hop hB75 hB76 hB57 hB58 hB62) (cwV 3 hts g_q_twice_3 rfl rfl rfl (by decide +kernel) ⟨Nat.le_of_ble_eq_true rfl, Nat.le_of_ble_eq_true rfl⟩) (x_preV (q := (RX12, TX12, 85)) hK hP hD (ci := 11) (q0 := 0) rfl mwd_o0) rfl rfl hl.1 rfl (lv_room (Nat.le_of_ble_eq_true rfl)) dX12_twice_37 ⟨Nat.le_of_ble_eq_true rfl, Nat.le_of_ble_eq_true rfl⟩) hP hD hS hA (fun r_8 u H locs hw hP hD hS => ?_)
        obtain ⟨n_9, j_10, j_11, f_12, f_13⟩ := u
        try dsimp only at hw
        have hP : va_P D vwCl (mwd y ad zw (tJ (tJ (sJ (sJ (sI (tI σ 74 f_7) 44 n_9) 42 j_10) 43 j_11) 75 f_12) 76 f_13)) H := hP
        have hD : va_D A (mwd y ad zw (tJ (tJ (sJ (sJ (sI (tI σ 74 f_7) 44 n_9) 42 j_10) 43 j_11) 75 f_12) 76 f_13)) := hD
        have hw : (r_8.toInt = 0 ∨ r_8.toInt = 1) ∧ bJ f_12 (-1000000000) 1000000000 ∧ bJ f_13 0 1000000000 := hw
        obtain ⟨hw, hg_14, hg_15⟩ := hw
        refine lv_if_eq (tgt := 53) hx hb dX12_twice_40 (by decide) (fun c_16 => ?_) (fun c_16 => ?_)
        · have kc_16 : r_8.toInt = 0 := by have h9 := c_16; simp only [ge_iff_le, gt_iff_lt, x_lt, x_le, x_eq, ne_eq, Int32.not_lt, Int32.not_le] at h9; simp only [Int32.reduceToInt] at h9; omega
          refine lv_ldc2 (v := (-2000000000)) hx hb hown (hts (.constantLong RX12 406 (-2000000000)) (List.mem_of_getElem? (i := 8) rfl)) dX12_twice_53 ?_
          exact x_lretW (v := (-2000000000)) (u := (f_7, n_9, j_10, j_11, f_12, f_13)) hx hb hr hQ (by (try dsimp only); exact ⟨trivial, hg_14, hg_15⟩) hP hD hK hS dX12_twice_56 hlocks
        · have kc_16 : r_8.toInt ≠ 0 := by have h9 := c_16; simp only [ge_iff_le, gt_iff_lt, x_lt, x_le, x_eq, ne_eq, Int32.not_lt, Int32.not_le] at h9; simp only [Int32.reduceToInt] at h9; omega
          refine lv_aload_n hx hb dX12_twice_43 rfl (lv_at hl 0 rfl) ?_
          refine lv_iload_n hx hb dX12_twice_44 rfl (lv_at hl 1 rfl) ?_
          refine lv_iload_n hx hb dX12_twice_45 rfl (lv_at hl 3 rfl) ?_
          refine lv_iconst (v := 1) hx hb dX12_twice_46 (by decide) ?_
          refine x_calliW (va_runV (As := [.int k, .int j, .int 1]) (rest := []) ⟨hx, hb, hml, hown, hts⟩ (q_slopes1 l D y H.size ad zw (tJ (tJ (sJ (sJ (sI (tI σ 74 f_7) 44 n_9) 42 j_10) 43 j_11) 75 f_12) 76 f_13) k j hop hg_14 hg_15 hB57 hB58 hB62) (cwV 3 hts g_q_twice_4 rfl rfl rfl (by decide +kernel) ⟨Nat.le_of_ble_eq_true rfl, Nat.le_of_ble_eq_true rfl⟩) (x_preV (q := (RX12, TX12, 85)) hK hP hD (ci := 11) (q0 := 0) rfl mwd_o0) rfl rfl hl.1 rfl (lv_room (Nat.le_of_ble_eq_true rfl)) dX12_twice_47 ⟨Nat.le_of_ble_eq_true rfl, Nat.le_of_ble_eq_true rfl⟩) hP hD hS hA (fun r_17 u H locs hw hP hD hS => ?_)
          obtain ⟨n_18, j_19, j_20, f_21, f_22⟩ := u
          try dsimp only at hw
          have hP : va_P D vwCl (mwd y ad zw (tJ (tJ (sJ (sJ (sI (tJ (tJ (sJ (sJ (sI (tI σ 74 f_7) 44 n_9) 42 j_10) 43 j_11) 75 f_12) 76 f_13) 44 n_18) 42 j_19) 43 j_20) 75 f_21) 76 f_22)) H := hP
          have hD : va_D A (mwd y ad zw (tJ (tJ (sJ (sJ (sI (tJ (tJ (sJ (sJ (sI (tI σ 74 f_7) 44 n_9) 42 j_10) 43 j_11) 75 f_12) 76 f_13) 44 n_18) 42 j_19) 43 j_20) 75 f_21) 76 f_22)) := hD
          have hw : (r_17.toInt = 0 ∨ r_17.toInt = 1) ∧ bJ f_21 (-1000000000) 1000000000 ∧ bJ f_22 0 1000000000 := hw
          obtain ⟨hw, hg_23, hg_24⟩ := hw
          refine lv_if_ne (tgt := 57) hx hb dX12_twice_50 (by decide) (fun c_25 => ?_) (fun c_25 => ?_)
          · have kc_25 : r_17.toInt ≠ 0 := by have h9 := c_25; simp only [ge_iff_le, gt_iff_lt, x_lt, x_le, x_eq, ne_eq, Int32.not_lt, Int32.not_le] at h9; simp only [Int32.reduceToInt] at h9; omega
            refine lv_aload_n hx hb dX12_twice_57 rfl (lv_at hl 0 rfl) ?_
            refine lv_iconst (v := 0) hx hb dX12_twice_58 (by decide) ?_
            refine va_put (D := D) (ci := 11) (v := .int 0) (ty := .boolean) (C := RX12) (T := TX12) (N := 85) hx hb hts inX12 tyX12 tyX12_ok nmX12 hown hK hP hD hS 0 mwd_o0 rfl 44 (by decide) fl384 (fun _ h9 => h9) rfl (by decide +kernel) rfl rfl (Nat.le_of_ble_eq_true rfl) dX12_twice_59 (fun H locs hP hD hS => ?_)
            have hP : va_P D vwCl (mwd y ad zw (sI (tJ (tJ (sJ (sJ (sI (tJ (tJ (sJ (sJ (sI (tI σ 74 f_7) 44 n_9) 42 j_10) 43 j_11) 75 f_12) 76 f_13) 44 n_18) 42 j_19) 43 j_20) 75 f_21) 76 f_22) 44 0)) H := x_trP hP mwd_p0_44
            have hD : va_D A (mwd y ad zw (sI (tJ (tJ (sJ (sJ (sI (tJ (tJ (sJ (sJ (sI (tI σ 74 f_7) 44 n_9) 42 j_10) 43 j_11) 75 f_12) 76 f_13) 44 n_18) 42 j_19) 43 j_20) 75 f_21) 76 f_22) 44 0)) := x_trD hD mwd_p0_44
            refine lv_iconst (v := 0) hx hb dX12_twice_62 (by decide) ?_
            refine lv_istore (lv' := [(5, .int 0), (0, .ref (ad 1)), (1, .int k), (2, .int i), (3, .int j), (4, .int b)]) hx hb dX12_twice_63 hl (by decide) rfl (fun ls hl => ?_)
            have hP : va_P D vwCl (mwd y ad zw (tJ (tJ (sJ (sJ (sI (tI σ 74 f_7) 44 0) 42 j_19) 43 j_20) 75 f_21) 76 f_22)) H := hP
            have hD : va_D A (mwd y ad zw (tJ (tJ (sJ (sJ (sI (tI σ 74 f_7) 44 0) 42 j_19) 43 j_20) 75 f_21) 76 f_22)) := hD
            have loop : ∀ (fu : Nat) (jj : Int32) (n1 : Int32) (j1 : Int64) (j2 : Int64) (f1 : Nat → Int64) (f2 : Nat → Int64) (H : Heap) (locs : List Loc) (ls : Array Slot), (0 ≤ jj.toInt) → (jj.toInt ≤ 1760) → (bJ f1 (-1000000000) 1000000000) → (bJ f2 0 1000000000) → (1760 - jj.toInt < (fu : Int)) → va_P D vwCl (mwd y ad zw (tJ (tJ (sJ (sJ (sI (tI σ 74 f_7) 44 n1) 42 j1) 43 j2) 75 f1) 76 f2)) H → va_D A (mwd y ad zw (tJ (tJ (sJ (sJ (sI (tI σ 74 f_7) 44 n1) 42 j1) 43 j2) 75 f1) 76 f2)) → va_S A s.heap H locs → lv_has ls 6 [(5, .int jj), (4, .int b), (3, .int j), (2, .int i), (1, .int k), (0, .ref (ad 1))] → W p l e ({ frames := 6, cells := 0, slots := 0, locals := 168 } : Room) s m ([.ref (ad 1), .int k, .int i, .int j, .int b] : List Value).toArray below meth c H locs 0 0 Q (F0 m 65 ls []) := by
              intro fu
              induction fu with
              | zero =>
                intro jj n1 j1 j2 f1 f2 H locs ls hj0 hj1 hf1 hf2 hm
                exact absurd hm (by omega)
              | succ fu ih_loop =>
                intro jj n1 j1 j2 f1 f2 H locs ls hj0 hj1 hf1 hf2 hm hP hD hS hl
                refine lv_iload hx hb dX12_twice_65 (lv_at hl 0 rfl) ?_
                refine lv_aload_n hx hb dX12_twice_67 rfl (lv_at hl 5 rfl) ?_
                refine va_get (D := D) (ci := 11) (v := .ref (ad 62)) (C := RX12) (T := TX12) (N := 85) hx hb hts inX12 hown hK hP 0 mwd_o0 rfl 62 (by decide) fl139 (fun _ h9 => h9) rfl dX12_twice_68 ?_
                refine lv_iconst (v := 0) hx hb dX12_twice_71 (by decide) ?_
                refine va_iald hx hb hK hP 42 2 mwd_a42 rfl (x_in (by decide) (by decide)) dX12_twice_72 ?_
                refine lv_topi (fun i_26 ei_26 => ?_)
                have ei_26 : i_26 = (σ.2.2.1 62) (Int32.toNatClampNeg 0) := ei_26
                have bi_26 := b_at hB62 ei_26
                refine lv_icmp_ge (tgt := 127) hx hb dX12_twice_73 (by decide) (fun c_27 => ?_) (fun c_27 => ?_)
                · have kc_27 : jj.toInt ≥ i_26.toInt := by have h9 := c_27; simp only [ge_iff_le, gt_iff_lt, x_lt, x_le, x_eq, ne_eq, Int32.not_lt, Int32.not_le] at h9; omega
                  refine lv_aload_n hx hb dX12_twice_127 rfl (lv_at hl 5 rfl) ?_
                  refine va_get (D := D) (ci := 11) (v := .int n1) (C := RX12) (T := TX12) (N := 85) hx hb hts inX12 hown hK hP 0 mwd_o0 rfl 44 (by decide) fl384 (fun _ h9 => h9) rfl dX12_twice_128 ?_
                  refine lv_if_eq (tgt := 140) hx hb dX12_twice_131 (by decide) (fun c_28 => ?_) (fun c_28 => ?_)
                  · have kc_28 : n1.toInt = 0 := by have h9 := c_28; simp only [ge_iff_le, gt_iff_lt, x_lt, x_le, x_eq, ne_eq, Int32.not_lt, Int32.not_le] at h9; simp only [Int32.reduceToInt] at h9; omega
                    refine lv_iload hx hb dX12_twice_140 (lv_at hl 1 rfl) ?_
                    refine lv_if_eq (tgt := 163) hx hb dX12_twice_142 (by decide) (fun c_29 => ?_) (fun c_29 => ?_)
                    · have kc_29 : b.toInt = 0 := by have h9 := c_29; simp only [ge_iff_le, gt_iff_lt, x_lt, x_le, x_eq, ne_eq, Int32.not_lt, Int32.not_le] at h9; simp only [Int32.reduceToInt] at h9; omega
                      refine lv_aload_n hx hb dX12_twice_163 rfl (lv_at hl 5 rfl) ?_
                      refine va_get (D := D) (ci := 11) (v := .ref (ad 76)) (C := RX12) (T := TX12) (N := 85) hx hb hts inX12 hown hK hP 0 mwd_o0 rfl 76 (by decide) fl170 (fun _ h9 => h9) rfl dX12_twice_164 ?_
                      refine lv_sipush (v := 3520) hx hb dX12_twice_167 (by decide) ?_
                      refine lv_aload_n hx hb dX12_twice_170 rfl (lv_at hl 5 rfl) ?_
                      refine va_get (D := D) (ci := 11) (v := .ref (ad 65)) (C := RX12) (T := TX12) (N := 85) hx hb hts inX12 hown hK hP 0 mwd_o0 rfl 65 (by decide) fl148 (fun _ h9 => h9) rfl dX12_twice_171 ?_
                      refine lv_iload_n hx hb dX12_twice_174 rfl (lv_at hl 4 rfl) ?_
                      refine va_iald hx hb hK hP 45 2 mwd_a45 rfl (x_in (by omega) (by omega)) dX12_twice_175 ?_
                      refine lv_topi (fun i_30 ei_30 => ?_)
                      have ei_30 : i_30 = (σ.2.2.1 65) (Int32.toNatClampNeg k) := ei_30
                      have bi_30 := b_at hB65 ei_30
                      refine lv_iadd hx hb dX12_twice_176 ?_
                      refine lv_topi (fun i_31 ei_31 => ?_)
                      have vi_31 : i_31.toInt = 3520 + i_30.toInt := by have h9 := x_add ei_31 (by omega) (by omega); omega
                      refine va_lald hx hb hK hP 52 3 mwd_a52 rfl (x_in (by omega) (by omega)) dX12_twice_177 ?_
                      refine lv_topl (fun j_32 ej_32 => ?_)
                      have ej_32 : j_32 = f2 (Int32.toNatClampNeg i_31) := ej_32
                      have bj_32 := b_atJ hf2 ej_32
                      exact x_lretW (v := j_32) (u := (f_7, n1, j1, j2, f1, f2)) hx hb hr hQ (by (try dsimp only); exact ⟨trivial, hf1, hf2⟩) hP hD hK hS dX12_twice_178 hlocks
                    · have kc_29 : b.toInt ≠ 0 := by have h9 := c_29; simp only [ge_iff_le, gt_iff_lt, x_lt, x_le, x_eq, ne_eq, Int32.not_lt, Int32.not_le] at h9; simp only [Int32.reduceToInt] at h9; omega
                      refine lv_aload_n hx hb dX12_twice_145 rfl (lv_at hl 5 rfl) ?_
                      refine va_get (D := D) (ci := 11) (v := .ref (ad 75)) (C := RX12) (T := TX12) (N := 85) hx hb hts inX12 hown hK hP 0 mwd_o0 rfl 75 (by decide) fl167 (fun _ h9 => h9) rfl dX12_twice_146 ?_
                      refine lv_sipush (v := 3520) hx hb dX12_twice_149 (by decide) ?_
                      refine lv_aload_n hx hb dX12_twice_152 rfl (lv_at hl 5 rfl) ?_
                      refine va_get (D := D) (ci := 11) (v := .ref (ad 65)) (C := RX12) (T := TX12) (N := 85) hx hb hts inX12 hown hK hP 0 mwd_o0 rfl 65 (by decide) fl148 (fun _ h9 => h9) rfl dX12_twice_153 ?_
                      refine lv_iload_n hx hb dX12_twice_156 rfl (lv_at hl 4 rfl) ?_
                      refine va_iald hx hb hK hP 45 2 mwd_a45 rfl (x_in (by omega) (by omega)) dX12_twice_157 ?_
                      refine lv_topi (fun i_33 ei_33 => ?_)
                      have ei_33 : i_33 = (σ.2.2.1 65) (Int32.toNatClampNeg k) := ei_33
                      have bi_33 := b_at hB65 ei_33
                      refine lv_iadd hx hb dX12_twice_158 ?_
                      refine lv_topi (fun i_34 ei_34 => ?_)
                      have vi_34 : i_34.toInt = 3520 + i_33.toInt := by have h9 := x_add ei_34 (by omega) (by omega); omega
                      refine va_lald hx hb hK hP 51 3 mwd_a51 rfl (x_in (by omega) (by omega)) dX12_twice_159 ?_
                      refine lv_topl (fun j_35 ej_35 => ?_)
                      have ej_35 : j_35 = f1 (Int32.toNatClampNeg i_34) := ej_35
                      have bj_35 := b_atJ hf1 ej_35
                      refine lv_goto (tgt := 178) hx hb dX12_twice_160 (by decide) ?_
                      exact x_lretW (v := j_35) (u := (f_7, n1, j1, j2, f1, f2)) hx hb hr hQ (by (try dsimp only); exact ⟨trivial, hf1, hf2⟩) hP hD hK hS dX12_twice_178 hlocks
                  · have kc_28 : n1.toInt ≠ 0 := by have h9 := c_28; simp only [ge_iff_le, gt_iff_lt, x_lt, x_le, x_eq, ne_eq, Int32.not_lt, Int32.not_le] at h9; simp only [Int32.reduceToInt] at h9; omega
                    refine lv_ldc2 (v := (-2000000000)) hx hb hown (hts (.constantLong RX12 406 (-2000000000)) (List.mem_of_getElem? (i := 8) rfl)) dX12_twice_134 ?_
                    refine lv_goto (tgt := 178) hx hb dX12_twice_137 (by decide) ?_
                    exact x_lretW (v := (-2000000000)) (u := (f_7, n1, j1, j2, f1, f2)) hx hb hr hQ (by (try dsimp only); exact ⟨trivial, hf1, hf2⟩) hP hD hK hS dX12_twice_178 hlocks
                · have kc_27 : jj.toInt < i_26.toInt := by have h9 := c_27; simp only [ge_iff_le, gt_iff_lt, x_lt, x_le, x_eq, ne_eq, Int32.not_lt, Int32.not_le] at h9; omega
                  refine lv_aload_n hx hb dX12_twice_76 rfl (lv_at hl 5 rfl) ?_
                  refine va_get (D := D) (ci := 11) (v := .int n1) (C := RX12) (T := TX12) (N := 85) hx hb hts inX12 hown hK hP 0 mwd_o0 rfl 44 (by decide) fl384 (fun _ h9 => h9) rfl dX12_twice_77 ?_
                  refine lv_if_ne (tgt := 127) hx hb dX12_twice_80 (by decide) (fun c_36 => ?_) (fun c_36 => ?_)
                  · have kc_36 : n1.toInt ≠ 0 := by have h9 := c_36; simp only [ge_iff_le, gt_iff_lt, x_lt, x_le, x_eq, ne_eq, Int32.not_lt, Int32.not_le] at h9; simp only [Int32.reduceToInt] at h9; omega
                    refine lv_aload_n hx hb dX12_twice_127 rfl (lv_at hl 5 rfl) ?_
                    refine va_get (D := D) (ci := 11) (v := .int n1) (C := RX12) (T := TX12) (N := 85) hx hb hts inX12 hown hK hP 0 mwd_o0 rfl 44 (by decide) fl384 (fun _ h9 => h9) rfl dX12_twice_128 ?_
                    refine lv_if_eq (tgt := 140) hx hb dX12_twice_131 (by decide) (fun c_37 => ?_) (fun c_37 => ?_)
                    · have kc_37 : n1.toInt = 0 := by have h9 := c_37; simp only [ge_iff_le, gt_iff_lt, x_lt, x_le, x_eq, ne_eq, Int32.not_lt, Int32.not_le] at h9; simp only [Int32.reduceToInt] at h9; omega
                      refine lv_iload hx hb dX12_twice_140 (lv_at hl 1 rfl) ?_
                      refine lv_if_eq (tgt := 163) hx hb dX12_twice_142 (by decide) (fun c_38 => ?_) (fun c_38 => ?_)
                      · have kc_38 : b.toInt = 0 := by have h9 := c_38; simp only [ge_iff_le, gt_iff_lt, x_lt, x_le, x_eq, ne_eq, Int32.not_lt, Int32.not_le] at h9; simp only [Int32.reduceToInt] at h9; omega
                        refine lv_aload_n hx hb dX12_twice_163 rfl (lv_at hl 5 rfl) ?_
                        refine va_get (D := D) (ci := 11) (v := .ref (ad 76)) (C := RX12) (T := TX12) (N := 85) hx hb hts inX12 hown hK hP 0 mwd_o0 rfl 76 (by decide) fl170 (fun _ h9 => h9) rfl dX12_twice_164 ?_
                        refine lv_sipush (v := 3520) hx hb dX12_twice_167 (by decide) ?_
                        refine lv_aload_n hx hb dX12_twice_170 rfl (lv_at hl 5 rfl) ?_
                        refine va_get (D := D) (ci := 11) (v := .ref (ad 65)) (C := RX12) (T := TX12) (N := 85) hx hb hts inX12 hown hK hP 0 mwd_o0 rfl 65 (by decide) fl148 (fun _ h9 => h9) rfl dX12_twice_171 ?_
                        refine lv_iload_n hx hb dX12_twice_174 rfl (lv_at hl 4 rfl) ?_
                        refine va_iald hx hb hK hP 45 2 mwd_a45 rfl (x_in (by omega) (by omega)) dX12_twice_175 ?_
                        refine lv_topi (fun i_39 ei_39 => ?_)
                        have ei_39 : i_39 = (σ.2.2.1 65) (Int32.toNatClampNeg k) := ei_39
                        have bi_39 := b_at hB65 ei_39
                        refine lv_iadd hx hb dX12_twice_176 ?_
                        refine lv_topi (fun i_40 ei_40 => ?_)
                        have vi_40 : i_40.toInt = 3520 + i_39.toInt := by have h9 := x_add ei_40 (by omega) (by omega); omega
                        refine va_lald hx hb hK hP 52 3 mwd_a52 rfl (x_in (by omega) (by omega)) dX12_twice_177 ?_
                        refine lv_topl (fun j_41 ej_41 => ?_)
                        have ej_41 : j_41 = f2 (Int32.toNatClampNeg i_40) := ej_41
                        have bj_41 := b_atJ hf2 ej_41
                        exact x_lretW (v := j_41) (u := (f_7, n1, j1, j2, f1, f2)) hx hb hr hQ (by (try dsimp only); exact ⟨trivial, hf1, hf2⟩) hP hD hK hS dX12_twice_178 hlocks
                      · have kc_38 : b.toInt ≠ 0 := by have h9 := c_38; simp only [ge_iff_le, gt_iff_lt, x_lt, x_le, x_eq, ne_eq, Int32.not_lt, Int32.not_le] at h9; simp only [Int32.reduceToInt] at h9; omega
                        refine lv_aload_n hx hb dX12_twice_145 rfl (lv_at hl 5 rfl) ?_
                        refine va_get (D := D) (ci := 11) (v := .ref (ad 75)) (C := RX12) (T := TX12) (N := 85) hx hb hts inX12 hown hK hP 0 mwd_o0 rfl 75 (by decide) fl167 (fun _ h9 => h9) rfl dX12_twice_146 ?_
                        refine lv_sipush (v := 3520) hx hb dX12_twice_149 (by decide) ?_
                        refine lv_aload_n hx hb dX12_twice_152 rfl (lv_at hl 5 rfl) ?_
                        refine va_get (D := D) (ci := 11) (v := .ref (ad 65)) (C := RX12) (T := TX12) (N := 85) hx hb hts inX12 hown hK hP 0 mwd_o0 rfl 65 (by decide) fl148 (fun _ h9 => h9) rfl dX12_twice_153 ?_
                        refine lv_iload_n hx hb dX12_twice_156 rfl (lv_at hl 4 rfl) ?_
                        refine va_iald hx hb hK hP 45 2 mwd_a45 rfl (x_in (by omega) (by omega)) dX12_twice_157 ?_
                        refine lv_topi (fun i_42 ei_42 => ?_)
                        have ei_42 : i_42 = (σ.2.2.1 65) (Int32.toNatClampNeg k) := ei_42
                        have bi_42 := b_at hB65 ei_42
                        refine lv_iadd hx hb dX12_twice_158 ?_
                        refine lv_topi (fun i_43 ei_43 => ?_)
                        have vi_43 : i_43.toInt = 3520 + i_42.toInt := by have h9 := x_add ei_43 (by omega) (by omega); omega
                        refine va_lald hx hb hK hP 51 3 mwd_a51 rfl (x_in (by omega) (by omega)) dX12_twice_159 ?_
                        refine lv_topl (fun j_44 ej_44 => ?_)
                        have ej_44 : j_44 = f1 (Int32.toNatClampNeg i_43) := ej_44
                        have bj_44 := b_atJ hf1 ej_44
                        refine lv_goto (tgt := 178) hx hb dX12_twice_160 (by decide) ?_
                        exact x_lretW (v := j_44) (u := (f_7, n1, j1, j2, f1, f2)) hx hb hr hQ (by (try dsimp only); exact ⟨trivial, hf1, hf2⟩) hP hD hK hS dX12_twice_178 hlocks
                    · have kc_37 : n1.toInt ≠ 0 := by have h9 := c_37; simp only [ge_iff_le, gt_iff_lt, x_lt, x_le, x_eq, ne_eq, Int32.not_lt, Int32.not_le] at h9; simp only [Int32.reduceToInt] at h9; omega
                      refine lv_ldc2 (v := (-2000000000)) hx hb hown (hts (.constantLong RX12 406 (-2000000000)) (List.mem_of_getElem? (i := 8) rfl)) dX12_twice_134 ?_
                      refine lv_goto (tgt := 178) hx hb dX12_twice_137 (by decide) ?_
                      exact x_lretW (v := (-2000000000)) (u := (f_7, n1, j1, j2, f1, f2)) hx hb hr hQ (by (try dsimp only); exact ⟨trivial, hf1, hf2⟩) hP hD hK hS dX12_twice_178 hlocks
                  · have kc_36 : n1.toInt = 0 := by have h9 := c_36; simp only [ge_iff_le, gt_iff_lt, x_lt, x_le, x_eq, ne_eq, Int32.not_lt, Int32.not_le] at h9; simp only [Int32.reduceToInt] at h9; omega
                    refine lv_aload_n hx hb dX12_twice_83 rfl (lv_at hl 5 rfl) ?_
                    refine va_get (D := D) (ci := 11) (v := .ref (ad 74)) (C := RX12) (T := TX12) (N := 85) hx hb hts inX12 hown hK hP 0 mwd_o0 rfl 74 (by decide) fl163 (fun _ h9 => h9) rfl dX12_twice_84 ?_
                    refine lv_iload hx hb dX12_twice_87 (lv_at hl 0 rfl) ?_
                    refine va_zald hx hb hK hP 50 4 mwd_a50 rfl (x_in (by omega) (by omega)) dX12_twice_89 ?_
                    refine lv_topi (fun i_45 ei_45 => ?_)
                    have ei_45 : i_45 = f_7 (Int32.toNatClampNeg jj) := ei_45
                    refine lv_if_ne (tgt := 96) hx hb dX12_twice_90 (by decide) (fun c_46 => ?_) (fun c_46 => ?_)
                    · have kc_46 : i_45.toInt ≠ 0 := by have h9 := c_46; simp only [ge_iff_le, gt_iff_lt, x_lt, x_le, x_eq, ne_eq, Int32.not_lt, Int32.not_le] at h9; simp only [Int32.reduceToInt] at h9; omega
                      refine lv_aload_n hx hb dX12_twice_96 rfl (lv_at hl 5 rfl) ?_
                      refine lv_iconst (v := 2) hx hb dX12_twice_97 (by decide) ?_
                      refine lv_iload hx hb dX12_twice_98 (lv_at hl 0 rfl) ?_
                      refine lv_lconst (v := 0) hx hb dX12_twice_100 (by decide) ?_
                      refine lv_lconst (v := 1) hx hb dX12_twice_101 (by decide) ?_
                      refine x_callvW (va_runV (As := [.int 2, .int jj, .long 0, .long 1]) (rest := []) ⟨hx, hb, hml, hown, hts⟩ (q_lets2 l D y H.size ad zw (tJ (tJ (sJ (sJ (sI (tI σ 74 f_7) 44 n1) 42 j1) 43 j2) 75 f1) 76 f2) jj 0 1 (by first | omega | decide) (by first | omega | decide) (by first | omega | decide) (by first | omega | decide) (by first | omega | decide) (by first | omega | decide) hf1 hf2) (cwV 4 hts g_q_twice_5 rfl rfl rfl (by decide +kernel) ⟨Nat.le_of_ble_eq_true rfl, Nat.le_of_ble_eq_true rfl⟩) (x_preV (q := (RX12, TX12, 85)) hK hP hD (ci := 11) (q0 := 0) rfl mwd_o0) rfl rfl hl.1 rfl (lv_room (Nat.le_of_ble_eq_true rfl)) dX12_twice_102 ⟨Nat.le_of_ble_eq_true rfl, Nat.le_of_ble_eq_true rfl⟩) hP hD hS hA (fun u H locs hw hP hD hS => ?_)
                      obtain ⟨f_47, f_48⟩ := u
                      try dsimp only at hw
                      have hP : va_P D vwCl (mwd y ad zw (tJ (tJ (tJ (tJ (sJ (sJ (sI (tI σ 74 f_7) 44 n1) 42 j1) 43 j2) 75 f1) 76 f2) 75 f_47) 76 f_48)) H := hP
                      have hD : va_D A (mwd y ad zw (tJ (tJ (tJ (tJ (sJ (sJ (sI (tI σ 74 f_7) 44 n1) 42 j1) 43 j2) 75 f1) 76 f2) 75 f_47) 76 f_48)) := hD
                      have hw : (True) ∧ bJ f_47 (-1000000000) 1000000000 ∧ bJ f_48 0 1000000000 := hw
                      obtain ⟨hw, hg_49, hg_50⟩ := hw
                      refine lv_aload_n hx hb dX12_twice_105 rfl (lv_at hl 5 rfl) ?_
                      refine va_get (D := D) (ci := 11) (v := .ref (ad 59)) (C := RX12) (T := TX12) (N := 85) hx hb hts inX12 hown hK hP 0 mwd_o0 rfl 59 (by decide) fl130 (fun _ h9 => h9) rfl dX12_twice_106 ?_
                      refine lv_iload hx hb dX12_twice_109 (lv_at hl 0 rfl) ?_
                      refine va_iald hx hb hK hP 39 2 mwd_a39 rfl (x_in (by omega) (by omega)) dX12_twice_111 ?_
                      refine lv_topi (fun i_51 ei_51 => ?_)
                      have ei_51 : i_51 = (σ.2.2.1 59) (Int32.toNatClampNeg jj) := ei_51
                      refine lv_if_eq (tgt := 121) hx hb dX12_twice_112 (by decide) (fun c_52 => ?_) (fun c_52 => ?_)
                      · have kc_52 : i_51.toInt = 0 := by have h9 := c_52; simp only [ge_iff_le, gt_iff_lt, x_lt, x_le, x_eq, ne_eq, Int32.not_lt, Int32.not_le] at h9; simp only [Int32.reduceToInt] at h9; omega
                        obtain ⟨i_53, ei_53⟩ : ∃ z9 : Int32, z9 = jj + 1 := ⟨_, rfl⟩
                        have vi_53 : i_53.toInt = jj.toInt + 1 := by have h9 := x_add ei_53 (by omega) (by omega); omega
                        refine lv_iinc (v := i_53) (lv' := [(5, .int i_53), (4, .int b), (3, .int j), (2, .int i), (1, .int k), (0, .ref (ad 1))]) hx hb dX12_twice_121 hl (k := 0) rfl (by rw [ei_53]; rfl) (by decide) rfl (fun ls hl => ?_)
                        refine lv_goto (tgt := 65) hx hb dX12_twice_124 (by decide) ?_
                        have hP : va_P D vwCl (mwd y ad zw (tJ (tJ (sJ (sJ (sI (tI σ 74 f_7) 44 n1) 42 j1) 43 j2) 75 f_47) 76 f_48)) H := hP
                        have hD : va_D A (mwd y ad zw (tJ (tJ (sJ (sJ (sI (tI σ 74 f_7) 44 n1) 42 j1) 43 j2) 75 f_47) 76 f_48)) := hD
                        exact ih_loop i_53 n1 j1 j2 f_47 f_48 H locs ls (by omega) (by omega) hg_49 hg_50 (by omega) hP hD hS (lv_sub hl [0, 1, 2, 3, 4, 5] rfl)
                      · have kc_52 : i_51.toInt ≠ 0 := by have h9 := c_52; simp only [ge_iff_le, gt_iff_lt, x_lt, x_le, x_eq, ne_eq, Int32.not_lt, Int32.not_le] at h9; simp only [Int32.reduceToInt] at h9; omega
                        refine lv_aload_n hx hb dX12_twice_115 rfl (lv_at hl 5 rfl) ?_
                        refine lv_iload hx hb dX12_twice_116 (lv_at hl 0 rfl) ?_
                        refine x_callvW (va_runV (As := [.int jj]) (rest := []) ⟨hx, hb, hml, hown, hts⟩ (q_bends l D y H.size ad zw (tJ (tJ (tJ (tJ (sJ (sJ (sI (tI σ 74 f_7) 44 n1) 42 j1) 43 j2) 75 f1) 76 f2) 75 f_47) 76 f_48) jj (by first | omega | decide) (by first | omega | decide) (x_ne0 ei_51 kc_52) hop hg_49 hg_50 hB57 hB58) (cwV 1 hts g_q_twice_6 rfl rfl rfl (by decide +kernel) ⟨Nat.le_of_ble_eq_true rfl, Nat.le_of_ble_eq_true rfl⟩) (x_preV (q := (RX12, TX12, 85)) hK hP hD (ci := 11) (q0 := 0) rfl mwd_o0) rfl rfl hl.1 rfl (lv_room (Nat.le_of_ble_eq_true rfl)) dX12_twice_118 ⟨Nat.le_of_ble_eq_true rfl, Nat.le_of_ble_eq_true rfl⟩) hP hD hS hA (fun u H locs hw hP hD hS => ?_)
                        obtain ⟨n_54, j_55, j_56, f_57, f_58⟩ := u
                        try dsimp only at hw
                        have hP : va_P D vwCl (mwd y ad zw (tJ (tJ (sJ (sJ (sI (tJ (tJ (tJ (tJ (sJ (sJ (sI (tI σ 74 f_7) 44 n1) 42 j1) 43 j2) 75 f1) 76 f2) 75 f_47) 76 f_48) 44 n_54) 42 j_55) 43 j_56) 75 f_57) 76 f_58)) H := hP
                        have hD : va_D A (mwd y ad zw (tJ (tJ (sJ (sJ (sI (tJ (tJ (tJ (tJ (sJ (sJ (sI (tI σ 74 f_7) 44 n1) 42 j1) 43 j2) 75 f1) 76 f2) 75 f_47) 76 f_48) 44 n_54) 42 j_55) 43 j_56) 75 f_57) 76 f_58)) := hD
                        have hw : (True) ∧ bJ f_57 (-1000000000) 1000000000 ∧ bJ f_58 0 1000000000 := hw
                        obtain ⟨hw, hg_59, hg_60⟩ := hw
                        obtain ⟨i_61, ei_61⟩ : ∃ z9 : Int32, z9 = jj + 1 := ⟨_, rfl⟩
                        have vi_61 : i_61.toInt = jj.toInt + 1 := by have h9 := x_add ei_61 (by omega) (by omega); omega
                        refine lv_iinc (v := i_61) (lv' := [(5, .int i_61), (4, .int b), (3, .int j), (2, .int i), (1, .int k), (0, .ref (ad 1))]) hx hb dX12_twice_121 hl (k := 0) rfl (by rw [ei_61]; rfl) (by decide) rfl (fun ls hl => ?_)
                        refine lv_goto (tgt := 65) hx hb dX12_twice_124 (by decide) ?_
                        have hP : va_P D vwCl (mwd y ad zw (tJ (tJ (sJ (sJ (sI (tI σ 74 f_7) 44 n_54) 42 j_55) 43 j_56) 75 f_57) 76 f_58)) H := hP
                        have hD : va_D A (mwd y ad zw (tJ (tJ (sJ (sJ (sI (tI σ 74 f_7) 44 n_54) 42 j_55) 43 j_56) 75 f_57) 76 f_58)) := hD
                        exact ih_loop i_61 n_54 j_55 j_56 f_57 f_58 H locs ls (by omega) (by omega) hg_59 hg_60 (by omega) hP hD hS (lv_sub hl [0, 1, 2, 3, 4, 5] rfl)
                    · have kc_46 : i_45.toInt = 0 := by have h9 := c_46; simp only [ge_iff_le, gt_iff_lt, x_lt, x_le, x_eq, ne_eq, Int32.not_lt, Int32.not_le] at h9; simp only [Int32.reduceToInt] at h9; omega
                      refine lv_goto (tgt := 121) hx hb dX12_twice_93 (by decide) ?_
                      obtain ⟨i_62, ei_62⟩ : ∃ z9 : Int32, z9 = jj + 1 := ⟨_, rfl⟩
                      have vi_62 : i_62.toInt = jj.toInt + 1 := by have h9 := x_add ei_62 (by omega) (by omega); omega
                      refine lv_iinc (v := i_62) (lv' := [(5, .int i_62), (4, .int b), (3, .int j), (2, .int i), (1, .int k), (0, .ref (ad 1))]) hx hb dX12_twice_121 hl (k := 0) rfl (by rw [ei_62]; rfl) (by decide) rfl (fun ls hl => ?_)
                      refine lv_goto (tgt := 65) hx hb dX12_twice_124 (by decide) ?_
                      exact ih_loop i_62 n1 j1 j2 f1 f2 H locs ls (by omega) (by omega) hf1 hf2 (by omega) hP hD hS (lv_sub hl [0, 1, 2, 3, 4, 5] rfl)
            exact loop 1761 0 0 j_19 j_20 f_21 f_22 H locs ls (by decide) (by decide) hg_23 hg_24 (by omega) hP hD hS (lv_sub hl [0, 5, 4, 3, 2, 1] rfl)
          · have kc_25 : r_17.toInt = 0 := by have h9 := c_25; simp only [ge_iff_le, gt_iff_lt, x_lt, x_le, x_eq, ne_eq, Int32.not_lt, Int32.not_le] at h9; simp only [Int32.reduceToInt] at h9; omega
            refine lv_ldc2 (v := (-2000000000)) hx hb hown (hts (.constantLong RX12 406 (-2000000000)) (List.mem_of_getElem? (i := 8) rfl)) dX12_twice_53 ?_
            have hP : va_P D vwCl (mwd y ad zw (tJ (tJ (sJ (sJ (sI (tI σ 74 f_7) 44 n_18) 42 j_19) 43 j_20) 75 f_21) 76 f_22)) H := hP
            have hD : va_D A (mwd y ad zw (tJ (tJ (sJ (sJ (sI (tI σ 74 f_7) 44 n_18) 42 j_19) 43 j_20) 75 f_21) 76 f_22)) := hD
            exact x_lretW (v := (-2000000000)) (u := (f_7, n_18, j_19, j_20, f_21, f_22)) hx hb hr hQ (by (try dsimp only); exact ⟨trivial, hg_23, hg_24⟩) hP hD hK hS dX12_twice_56 hlocks
      · have kc_6 : r_5.toInt = 0 := by have h9 := c_6; simp only [ge_iff_le, gt_iff_lt, x_lt, x_le, x_eq, ne_eq, Int32.not_lt, Int32.not_le] at h9; simp only [Int32.reduceToInt] at h9; omega
        refine lv_ldc2 (v := (-2000000000)) hx hb hown (hts (.constantLong RX12 406 (-2000000000)) (List.mem_of_getElem? (i := 8) rfl)) dX12_twice_24 ?_
        have hP : va_P D vwCl (mwd y ad zw (tJ (tJ (sJ (sJ (sI (tI σ 74 (σ.2.2.1 74)) 44 (σ.1 44)) 42 (σ.2.1 42)) 43 (σ.2.1 43)) 75 (σ.2.2.2 75)) 76 (σ.2.2.2 76))) H := hP
        have hD : va_D A (mwd y ad zw (tJ (tJ (sJ (sJ (sI (tI σ 74 (σ.2.2.1 74)) 44 (σ.1 44)) 42 (σ.2.1 42)) 43 (σ.2.1 43)) 75 (σ.2.2.2 75)) 76 (σ.2.2.2 76))) := hD
        exact x_lretW (v := (-2000000000)) (u := ((σ.2.2.1 74), (σ.1 44), (σ.2.1 42), (σ.2.1 43), (σ.2.2.2 75), (σ.2.2.2 76))) hx hb hr hQ (by (try dsimp only); exact ⟨trivial, hB75, hB76⟩) hP hD hK hS dX12_twice_27 hlocks

def v_q_movesOf : List Cond := .code yX12_movesOf cX12_movesOf 4 (some .int) :: ([.fieldLink RX12 60 "SlopeRunnerModel" "has" "[I", .fieldLink RX12 163 "SlopeRunnerModel" "hangs" "[Z"] ++ ((wsV RX12 467 RX12 yX12_marks v_q_marks) ++ wsX120))
theorem g_q_movesOf_0 : GoodIn v_q_movesOf (wsV RX12 467 RX12 yX12_marks v_q_marks) := goodIn_sub (fun w h => List.mem_cons_of_mem _ (List.mem_append_right _ (List.mem_append_left _ h))) (by decide +kernel)
set_option maxHeartbeats 4000000 in
set_option maxRecDepth 100000 in
theorem q_movesOf (l : Launch) (D : va_G) (y : Nat → ClassId) (sz : Nat) (ad : Nat → Nat) (zw : Nat → Nat → Int32) (σ : OS) (k : Int32) (hk0 : 0 ≤ k.toInt) (hk1 : k.toInt < 24) (h5 : 0 ≤ (σ.2.2.1 24 5).toInt ∧ (σ.2.2.1 24 5).toInt ≤ 8) (hop : opc (σ.2.2.1 59) (σ.2.2.1 60) (σ.2.2.1 61)) (hB62 : bI (σ.2.2.1 62) 0 1760) (hB65 : bI (σ.2.2.1 65) 0 1759) : Met l yX12_movesOf v_q_movesOf ({ frames := 1, cells := 0, slots := 0, locals := 22 } : Room) (va_Pc [.ref (ad 1), .int k] (xPre D (xT y) (mwd y ad zw σ) sz)) (va_Qi (fun (r : Int32) (u : (Nat → Int32)) => True) (fun (u : (Nat → Int32)) => xB D (xT y) (va_A (mwd y ad zw σ) sz) (mwd y ad zw (tI σ 74 u))) (va_A (mwd y ad zw σ) sz)) 0 0 (va_A (mwd y ad zw σ) sz) := by
  refine x_meti (cc := cX12_movesOf) (maxL := 4) (by decide) rfl (Nat.le_of_ble_eq_true rfl) ?_
  intro p e s m below meth c A H locs Q hx hb hml hown hts hr hlocks hmn hA hP hK hD hS ls hl hQ
  have hl : lv_has ls 4 [(0, .ref (ad 1)), (1, .int k)] := hl
  have fl60 := hts (.fieldLink RX12 60 "SlopeRunnerModel" "has" "[I") (List.mem_of_getElem? (i := 1) rfl)
  have inX12 : ∀ w ∈ wsX120, w ∈ v_q_movesOf := (fun w h => List.mem_cons_of_mem _ (List.mem_append_right _ (List.mem_append_right _ h)))
  have fl163 := hts (.fieldLink RX12 163 "SlopeRunnerModel" "hangs" "[Z") (List.mem_of_getElem? (i := 2) rfl)
  have kk_0 : (0 : Int32).toInt = 0 := rfl
  have kk_1 : (1 : Int32).toInt = 1 := rfl
  refine lv_aload_n hx hb dX12_movesOf_0 rfl (lv_at hl 0 rfl) ?_
  refine lv_iload_n hx hb dX12_movesOf_1 rfl (lv_at hl 1 rfl) ?_
  refine x_callvW (va_runV (As := [.int k]) (rest := []) ⟨hx, hb, hml, hown, hts⟩ (q_marks l D y H.size ad zw σ k (by first | omega | decide) (by first | omega | decide) hop hB62 hB65) (cwV 1 hts g_q_movesOf_0 rfl rfl rfl (by decide +kernel) ⟨Nat.le_of_ble_eq_true rfl, Nat.le_of_ble_eq_true rfl⟩) (x_preV (q := (RX12, TX12, 85)) hK hP hD (ci := 11) (q0 := 0) rfl mwd_o0) rfl rfl hl.1 rfl (lv_room (Nat.le_of_ble_eq_true rfl)) dX12_movesOf_2 ⟨Nat.le_of_ble_eq_true rfl, Nat.le_of_ble_eq_true rfl⟩) hP hD hS hA (fun u H locs hw hP hD hS => ?_)
  obtain ⟨f_1, rfl⟩ : ∃ z9, z9 = u := ⟨_, rfl⟩
  try dsimp only at hw
  have hP : va_P D vwCl (mwd y ad zw (tI σ 74 f_1)) H := hP
  have hD : va_D A (mwd y ad zw (tI σ 74 f_1)) := hD
  refine lv_iconst (v := 0) hx hb dX12_movesOf_5 (by decide) ?_
  refine lv_istore_n (lv' := [(2, .int 0), (0, .ref (ad 1)), (1, .int k)]) hx hb dX12_movesOf_6 rfl hl (by decide) rfl (fun ls hl => ?_)
  refine lv_iconst (v := 0) hx hb dX12_movesOf_7 (by decide) ?_
  refine lv_istore_n (lv' := [(3, .int 0), (2, .int 0), (0, .ref (ad 1)), (1, .int k)]) hx hb dX12_movesOf_8 rfl hl (by decide) rfl (fun ls hl => ?_)
  have loop : ∀ (fu : Nat) (j : Int32) (v : Int32) (H : Heap) (locs : List Loc) (ls : Array Slot), (0 ≤ j.toInt) → (j.toInt ≤ 8) → (8 - j.toInt < (fu : Int)) → va_P D vwCl (mwd y ad zw (tI σ 74 f_1)) H → va_D A (mwd y ad zw (tI σ 74 f_1)) → va_S A s.heap H locs → lv_has ls 4 [(3, .int j), (2, .int v), (1, .int k), (0, .ref (ad 1))] → W p l e ({ frames := 1, cells := 0, slots := 0, locals := 22 } : Room) s m ([.ref (ad 1), .int k] : List Value).toArray below meth c H locs 0 0 Q (F0 m 9 ls []) := by
    intro fu
    induction fu with
    | zero =>
      intro j v H locs ls hj0 hj1 hm
      exact absurd hm (by omega)
    | succ fu ih_loop =>
      intro j v H locs ls hj0 hj1 hm hP hD hS hl
      refine lv_iload_n hx hb dX12_movesOf_9 rfl (lv_at hl 0 rfl) ?_
      refine lv_aload_n hx hb dX12_movesOf_10 rfl (lv_at hl 3 rfl) ?_
      refine va_get (D := D) (ci := 11) (v := .ref (ad 24)) (C := RX12) (T := TX12) (N := 85) hx hb hts inX12 hown hK hP 0 mwd_o0 rfl 24 (by decide) fl60 (fun _ h9 => h9) rfl dX12_movesOf_11 ?_
      refine lv_iconst (v := 5) hx hb dX12_movesOf_14 (by decide) ?_
      refine va_iald hx hb hK hP 16 2 mwd_a16 rfl (x_in (by decide) (by decide)) dX12_movesOf_15 ?_
      refine lv_topi (fun i_2 ei_2 => ?_)
      have ei_2 : i_2 = (σ.2.2.1 24) (Int32.toNatClampNeg 5) := ei_2
      have gi_2 : 0 ≤ i_2.toInt ∧ i_2.toInt ≤ 8 := by rw [show i_2 = σ.2.2.1 24 5 from ei_2]; exact h5
      refine lv_icmp_ge (tgt := 40) hx hb dX12_movesOf_16 (by decide) (fun c_3 => ?_) (fun c_3 => ?_)
      · have kc_3 : j.toInt ≥ i_2.toInt := by have h9 := c_3; simp only [ge_iff_le, gt_iff_lt, x_lt, x_le, x_eq, ne_eq, Int32.not_lt, Int32.not_le] at h9; omega
        refine lv_iload_n hx hb dX12_movesOf_40 rfl (lv_at hl 1 rfl) ?_
        exact x_iretW (v := v) (u := f_1) hx hb hr hQ trivial hP hD hK hS dX12_movesOf_41 hlocks
      · have kc_3 : j.toInt < i_2.toInt := by have h9 := c_3; simp only [ge_iff_le, gt_iff_lt, x_lt, x_le, x_eq, ne_eq, Int32.not_lt, Int32.not_le] at h9; omega
        refine lv_aload_n hx hb dX12_movesOf_19 rfl (lv_at hl 3 rfl) ?_
        refine va_get (D := D) (ci := 11) (v := .ref (ad 74)) (C := RX12) (T := TX12) (N := 85) hx hb hts inX12 hown hK hP 0 mwd_o0 rfl 74 (by decide) fl163 (fun _ h9 => h9) rfl dX12_movesOf_20 ?_
        refine lv_iload_n hx hb dX12_movesOf_23 rfl (lv_at hl 0 rfl) ?_
        refine va_zald hx hb hK hP 50 4 mwd_a50 rfl (x_in (by omega) (by omega)) dX12_movesOf_24 ?_
        refine lv_topi (fun i_4 ei_4 => ?_)
        have ei_4 : i_4 = f_1 (Int32.toNatClampNeg j) := ei_4
        refine lv_if_eq (tgt := 34) hx hb dX12_movesOf_25 (by decide) (fun c_5 => ?_) (fun c_5 => ?_)
        · have kc_5 : i_4.toInt = 0 := by have h9 := c_5; simp only [ge_iff_le, gt_iff_lt, x_lt, x_le, x_eq, ne_eq, Int32.not_lt, Int32.not_le] at h9; simp only [Int32.reduceToInt] at h9; omega
          obtain ⟨i_6, ei_6⟩ : ∃ z9 : Int32, z9 = j + 1 := ⟨_, rfl⟩
          have vi_6 : i_6.toInt = j.toInt + 1 := by have h9 := x_add ei_6 (by omega) (by omega); omega
          refine lv_iinc (v := i_6) (lv' := [(3, .int i_6), (2, .int v), (1, .int k), (0, .ref (ad 1))]) hx hb dX12_movesOf_34 hl (k := 0) rfl (by rw [ei_6]; rfl) (by decide) rfl (fun ls hl => ?_)
          refine lv_goto (tgt := 9) hx hb dX12_movesOf_37 (by decide) ?_
          exact ih_loop i_6 v H locs ls (by omega) (by omega) (by omega) hP hD hS (lv_sub hl [0, 1, 2, 3] rfl)
        · have kc_5 : i_4.toInt ≠ 0 := by have h9 := c_5; simp only [ge_iff_le, gt_iff_lt, x_lt, x_le, x_eq, ne_eq, Int32.not_lt, Int32.not_le] at h9; simp only [Int32.reduceToInt] at h9; omega
          refine lv_iload_n hx hb dX12_movesOf_28 rfl (lv_at hl 1 rfl) ?_
          refine lv_iconst (v := 1) hx hb dX12_movesOf_29 (by decide) ?_
          refine lv_iload_n hx hb dX12_movesOf_30 rfl (lv_at hl 0 rfl) ?_
          refine lv_ishl hx hb dX12_movesOf_31 ?_
          refine lv_topi (fun i_7 ei_7 => ?_)
          refine lv_ior hx hb dX12_movesOf_32 ?_
          refine lv_topi (fun i_8 ei_8 => ?_)
          refine lv_istore_n (lv' := [(2, .int i_8), (3, .int j), (1, .int k), (0, .ref (ad 1))]) hx hb dX12_movesOf_33 rfl hl (by decide) rfl (fun ls hl => ?_)
          obtain ⟨i_9, ei_9⟩ : ∃ z9 : Int32, z9 = j + 1 := ⟨_, rfl⟩
          have vi_9 : i_9.toInt = j.toInt + 1 := by have h9 := x_add ei_9 (by omega) (by omega); omega
          refine lv_iinc (v := i_9) (lv' := [(3, .int i_9), (2, .int i_8), (1, .int k), (0, .ref (ad 1))]) hx hb dX12_movesOf_34 hl (k := 1) rfl (by rw [ei_9]; rfl) (by decide) rfl (fun ls hl => ?_)
          refine lv_goto (tgt := 9) hx hb dX12_movesOf_37 (by decide) ?_
          exact ih_loop i_9 i_8 H locs ls (by omega) (by omega) (by omega) hP hD hS (lv_sub hl [0, 1, 2, 3] rfl)
  exact loop 9 0 0 H locs ls (by decide) (by decide) (by omega) hP hD hS (lv_sub hl [0, 1, 3, 2] rfl)

def v_q_moves : List Cond := .code yX12_moves cX12_moves 2 (some .int) :: ([] ++ ((wsV RX12 454 RX12 yX12_isResult v_q_isResult) ++ (wsV RX12 484 RX12 yX12_movesOf v_q_movesOf)))
theorem g_q_moves_0 : GoodIn v_q_moves (wsV RX12 454 RX12 yX12_isResult v_q_isResult) := goodIn_sub (fun w h => List.mem_cons_of_mem _ (List.mem_append_right _ (List.mem_append_left _ h))) (by decide +kernel)
theorem g_q_moves_1 : GoodIn v_q_moves (wsV RX12 484 RX12 yX12_movesOf v_q_movesOf) := goodIn_sub (fun w h => List.mem_cons_of_mem _ (List.mem_append_right _ (List.mem_append_right _ h))) (by decide +kernel)
set_option maxHeartbeats 4000000 in
set_option maxRecDepth 100000 in
theorem q_moves (l : Launch) (D : va_G) (y : Nat → ClassId) (sz : Nat) (ad : Nat → Nat) (zw : Nat → Nat → Int32) (σ : OS) (k : Int32) (h5 : 0 ≤ (σ.2.2.1 24 5).toInt ∧ (σ.2.2.1 24 5).toInt ≤ 8) (hop : opc (σ.2.2.1 59) (σ.2.2.1 60) (σ.2.2.1 61)) (hB62 : bI (σ.2.2.1 62) 0 1760) (hB65 : bI (σ.2.2.1 65) 0 1759) (hB64 : bI (σ.2.2.1 64) 0 12) : Met l yX12_moves v_q_moves ({ frames := 2, cells := 0, slots := 0, locals := 46 } : Room) (va_Pc [.ref (ad 1), .int k] (xPre D (xT y) (mwd y ad zw σ) sz)) (va_Qi (fun (r : Int32) (u : (Nat → Int32)) => True) (fun (u : (Nat → Int32)) => xB D (xT y) (va_A (mwd y ad zw σ) sz) (mwd y ad zw (tI σ 74 u))) (va_A (mwd y ad zw σ) sz)) 0 0 (va_A (mwd y ad zw σ) sz) := by
  refine x_meti (cc := cX12_moves) (maxL := 2) (by decide) rfl (Nat.le_of_ble_eq_true rfl) ?_
  intro p e s m below meth c A H locs Q hx hb hml hown hts hr hlocks hmn hA hP hK hD hS ls hl hQ
  have hl : lv_has ls 2 [(0, .ref (ad 1)), (1, .int k)] := hl
  have kk_0 : (0 : Int32).toInt = 0 := rfl
  have kk_m1 : ((-1) : Int32).toInt = -1 := rfl
  refine lv_aload_n hx hb dX12_moves_0 rfl (lv_at hl 0 rfl) ?_
  refine lv_iload_n hx hb dX12_moves_1 rfl (lv_at hl 1 rfl) ?_
  refine x_calliW (va_runV (As := [.int k]) (rest := []) ⟨hx, hb, hml, hown, hts⟩ (q_isResult l D y H.size ad zw σ k hB64) (cwV 1 hts g_q_moves_0 rfl rfl rfl (by decide +kernel) ⟨Nat.le_of_ble_eq_true rfl, Nat.le_of_ble_eq_true rfl⟩) (x_preV (q := (RX12, TX12, 85)) hK hP hD (ci := 11) (q0 := 0) rfl mwd_o0) rfl rfl hl.1 rfl (lv_room (Nat.le_of_ble_eq_true rfl)) dX12_moves_2 ⟨Nat.le_of_ble_eq_true rfl, Nat.le_of_ble_eq_true rfl⟩) hP hD hS hA (fun r_1 u H locs hw hP hD hS => ?_)
  try dsimp only at hw
  have hP : va_P D vwCl (mwd y ad zw σ) H := hP
  have hD : va_D A (mwd y ad zw σ) := hD
  refine lv_if_eq (tgt := 16) hx hb dX12_moves_5 (by decide) (fun c_2 => ?_) (fun c_2 => ?_)
  · have kc_2 : r_1.toInt = 0 := by have h9 := c_2; simp only [ge_iff_le, gt_iff_lt, x_lt, x_le, x_eq, ne_eq, Int32.not_lt, Int32.not_le] at h9; simp only [Int32.reduceToInt] at h9; omega
    refine lv_iconst (v := (-1)) hx hb dX12_moves_16 (by decide) ?_
    have hP : va_P D vwCl (mwd y ad zw (tI σ 74 (σ.2.2.1 74))) H := hP
    have hD : va_D A (mwd y ad zw (tI σ 74 (σ.2.2.1 74))) := hD
    exact x_iretW (v := (-1)) (u := (σ.2.2.1 74)) hx hb hr hQ trivial hP hD hK hS dX12_moves_17 hlocks
  · have kc_2 : r_1.toInt ≠ 0 := by have h9 := c_2; simp only [ge_iff_le, gt_iff_lt, x_lt, x_le, x_eq, ne_eq, Int32.not_lt, Int32.not_le] at h9; simp only [Int32.reduceToInt] at h9; omega
    refine lv_aload_n hx hb dX12_moves_8 rfl (lv_at hl 0 rfl) ?_
    refine lv_iload_n hx hb dX12_moves_9 rfl (lv_at hl 1 rfl) ?_
    refine x_calliW (va_runV (As := [.int k]) (rest := []) ⟨hx, hb, hml, hown, hts⟩ (q_movesOf l D y H.size ad zw σ k (by first | omega | decide) (by first | omega | decide) h5 hop hB62 hB65) (cwV 1 hts g_q_moves_1 rfl rfl rfl (by decide +kernel) ⟨Nat.le_of_ble_eq_true rfl, Nat.le_of_ble_eq_true rfl⟩) (x_preV (q := (RX12, TX12, 85)) hK hP hD (ci := 11) (q0 := 0) rfl mwd_o0) rfl rfl hl.1 rfl (lv_room (Nat.le_of_ble_eq_true rfl)) dX12_moves_10 ⟨Nat.le_of_ble_eq_true rfl, Nat.le_of_ble_eq_true rfl⟩) hP hD hS hA (fun r_3 u H locs hw hP hD hS => ?_)
    obtain ⟨f_4, rfl⟩ : ∃ z9, z9 = u := ⟨_, rfl⟩
    try dsimp only at hw
    have hP : va_P D vwCl (mwd y ad zw (tI σ 74 f_4)) H := hP
    have hD : va_D A (mwd y ad zw (tI σ 74 f_4)) := hD
    refine lv_goto (tgt := 17) hx hb dX12_moves_13 (by decide) ?_
    exact x_iretW (v := r_3) (u := f_4) hx hb hr hQ trivial hP hD hK hS dX12_moves_17 hlocks

def v_q_ways : List Cond := .code yX12_ways cX12_ways 5 (some .int) :: ([.fieldLink RX12 139 "SlopeRunnerModel" "laid" "[I", .fieldLink RX12 173 "SlopeRunnerModel" "way" "[J", .fieldLink RX12 148 "SlopeRunnerModel" "resultAt" "[I", .fieldLink RX12 130 "SlopeRunnerModel" "op" "[I", .fieldLink RX12 133 "SlopeRunnerModel" "first" "[I", .fieldLink RX12 136 "SlopeRunnerModel" "second" "[I", .constantLong RX12 398 1000000000] ++ ((wsV RX12 454 RX12 yX12_isResult v_q_isResult) ++ ((wsV RX12 464 RX12 yX12_isInput v_q_isInput) ++ wsX120)))
theorem g_q_ways_0 : GoodIn v_q_ways (wsV RX12 454 RX12 yX12_isResult v_q_isResult) := goodIn_sub (fun w h => List.mem_cons_of_mem _ (List.mem_append_right _ (List.mem_append_left _ h))) (by decide +kernel)
theorem g_q_ways_1 : GoodIn v_q_ways (wsV RX12 464 RX12 yX12_isInput v_q_isInput) := goodIn_sub (fun w h => List.mem_cons_of_mem _ (List.mem_append_right _ (List.mem_append_right _ (List.mem_append_left _ h)))) (by decide +kernel)
set_option maxHeartbeats 4000000 in
set_option maxRecDepth 100000 in
theorem q_ways (l : Launch) (D : va_G) (y : Nat → ClassId) (sz : Nat) (ad : Nat → Nat) (zw : Nat → Nat → Int32) (σ : OS) (k i : Int32) (h5 : 0 ≤ (σ.2.2.1 24 5).toInt ∧ (σ.2.2.1 24 5).toInt ≤ 8) (hop : opc (σ.2.2.1 59) (σ.2.2.1 60) (σ.2.2.1 61)) (hB62 : bI (σ.2.2.1 62) 0 1760) (hB65 : bI (σ.2.2.1 65) 0 1759) (hB64 : bI (σ.2.2.1 64) 0 12) : Met l yX12_ways v_q_ways ({ frames := 2, cells := 0, slots := 0, locals := 46 } : Room) (va_Pc [.ref (ad 1), .int k, .int i] (xPre D (xT y) (mwd y ad zw σ) sz)) (va_Qi (fun (r : Int32) (u : (Nat → Int64)) => True) (fun (u : (Nat → Int64)) => xB D (xT y) (va_A (mwd y ad zw σ) sz) (mwd y ad zw (tJ σ 77 u))) (va_A (mwd y ad zw σ) sz)) 0 0 (va_A (mwd y ad zw σ) sz) := by
  refine x_meti (cc := cX12_ways) (maxL := 5) (by decide) rfl (Nat.le_of_ble_eq_true rfl) ?_
  intro p e s m below meth c A H locs Q hx hb hml hown hts hr hlocks hmn hA hP hK hD hS ls hl hQ
  have hl : lv_has ls 5 [(0, .ref (ad 1)), (1, .int k), (2, .int i)] := hl
  have kk_0 : (0 : Int32).toInt = 0 := rfl
  have kk_m1 : ((-1) : Int32).toInt = -1 := rfl
  have fl139 := hts (.fieldLink RX12 139 "SlopeRunnerModel" "laid" "[I") (List.mem_of_getElem? (i := 1) rfl)
  have inX12 : ∀ w ∈ wsX120, w ∈ v_q_ways := (fun w h => List.mem_cons_of_mem _ (List.mem_append_right _ (List.mem_append_right _ (List.mem_append_right _ h))))
  have fl173 := hts (.fieldLink RX12 173 "SlopeRunnerModel" "way" "[J") (List.mem_of_getElem? (i := 2) rfl)
  have fl148 := hts (.fieldLink RX12 148 "SlopeRunnerModel" "resultAt" "[I") (List.mem_of_getElem? (i := 3) rfl)
  have fl130 := hts (.fieldLink RX12 130 "SlopeRunnerModel" "op" "[I") (List.mem_of_getElem? (i := 4) rfl)
  have kk_5 : (5 : Int32).toInt = 5 := rfl
  have fl133 := hts (.fieldLink RX12 133 "SlopeRunnerModel" "first" "[I") (List.mem_of_getElem? (i := 5) rfl)
  have kk_1 : (1 : Int32).toInt = 1 := rfl
  have kk_6 : (6 : Int32).toInt = 6 := rfl
  have kk_7 : (7 : Int32).toInt = 7 := rfl
  have fl136 := hts (.fieldLink RX12 136 "SlopeRunnerModel" "second" "[I") (List.mem_of_getElem? (i := 6) rfl)
  refine lv_aload_n hx hb dX12_ways_0 rfl (lv_at hl 0 rfl) ?_
  refine lv_iload_n hx hb dX12_ways_1 rfl (lv_at hl 1 rfl) ?_
  refine x_calliW (va_runV (As := [.int k]) (rest := []) ⟨hx, hb, hml, hown, hts⟩ (q_isResult l D y H.size ad zw σ k hB64) (cwV 1 hts g_q_ways_0 rfl rfl rfl (by decide +kernel) ⟨Nat.le_of_ble_eq_true rfl, Nat.le_of_ble_eq_true rfl⟩) (x_preV (q := (RX12, TX12, 85)) hK hP hD (ci := 11) (q0 := 0) rfl mwd_o0) rfl rfl hl.1 rfl (lv_room (Nat.le_of_ble_eq_true rfl)) dX12_ways_2 ⟨Nat.le_of_ble_eq_true rfl, Nat.le_of_ble_eq_true rfl⟩) hP hD hS hA (fun r_1 u H locs hw hP hD hS => ?_)
  try dsimp only at hw
  have hP : va_P D vwCl (mwd y ad zw σ) H := hP
  have hD : va_D A (mwd y ad zw σ) := hD
  refine lv_if_eq (tgt := 16) hx hb dX12_ways_5 (by decide) (fun c_2 => ?_) (fun c_2 => ?_)
  · have kc_2 : r_1.toInt = 0 := by have h9 := c_2; simp only [ge_iff_le, gt_iff_lt, x_lt, x_le, x_eq, ne_eq, Int32.not_lt, Int32.not_le] at h9; simp only [Int32.reduceToInt] at h9; omega
    refine lv_iconst (v := (-1)) hx hb dX12_ways_16 (by decide) ?_
    have hP : va_P D vwCl (mwd y ad zw (tJ σ 77 (σ.2.2.2 77))) H := hP
    have hD : va_D A (mwd y ad zw (tJ σ 77 (σ.2.2.2 77))) := hD
    exact x_iretW (v := (-1)) (u := (σ.2.2.2 77)) hx hb hr hQ trivial hP hD hK hS dX12_ways_17 hlocks
  · have kc_2 : r_1.toInt ≠ 0 := by have h9 := c_2; simp only [ge_iff_le, gt_iff_lt, x_lt, x_le, x_eq, ne_eq, Int32.not_lt, Int32.not_le] at h9; simp only [Int32.reduceToInt] at h9; omega
    refine lv_aload_n hx hb dX12_ways_8 rfl (lv_at hl 0 rfl) ?_
    refine lv_iload_n hx hb dX12_ways_9 rfl (lv_at hl 2 rfl) ?_
    refine x_calliW (va_runV (As := [.int i]) (rest := []) ⟨hx, hb, hml, hown, hts⟩ (q_isInput l D y H.size ad zw σ i h5) (cwV 1 hts g_q_ways_1 rfl rfl rfl (by decide +kernel) ⟨Nat.le_of_ble_eq_true rfl, Nat.le_of_ble_eq_true rfl⟩) (x_preV (q := (RX12, TX12, 85)) hK hP hD (ci := 11) (q0 := 0) rfl mwd_o0) rfl rfl hl.1 rfl (lv_room (Nat.le_of_ble_eq_true rfl)) dX12_ways_10 ⟨Nat.le_of_ble_eq_true rfl, Nat.le_of_ble_eq_true rfl⟩) hP hD hS hA (fun r_3 u H locs hw hP hD hS => ?_)
    try dsimp only at hw
    have hP : va_P D vwCl (mwd y ad zw σ) H := hP
    have hD : va_D A (mwd y ad zw σ) := hD
    refine lv_if_ne (tgt := 18) hx hb dX12_ways_13 (by decide) (fun c_4 => ?_) (fun c_4 => ?_)
    · have kc_4 : r_3.toInt ≠ 0 := by have h9 := c_4; simp only [ge_iff_le, gt_iff_lt, x_lt, x_le, x_eq, ne_eq, Int32.not_lt, Int32.not_le] at h9; simp only [Int32.reduceToInt] at h9; omega
      refine lv_iconst (v := 0) hx hb dX12_ways_18 (by decide) ?_
      refine lv_istore_n (lv' := [(3, .int 0), (0, .ref (ad 1)), (1, .int k), (2, .int i)]) hx hb dX12_ways_19 rfl hl (by decide) rfl (fun ls hl => ?_)
      have hP : va_P D vwCl (mwd y ad zw (tJ σ 77 (σ.2.2.2 77))) H := hP
      have hD : va_D A (mwd y ad zw (tJ σ 77 (σ.2.2.2 77))) := hD
      have loop : ∀ (fu : Nat) (j : Int32) (f : Nat → Int64) (H : Heap) (locs : List Loc) (ls : Array Slot), (0 ≤ j.toInt) → (j.toInt ≤ 1760) → (1760 - j.toInt < (fu : Int)) → va_P D vwCl (mwd y ad zw (tJ σ 77 f)) H → va_D A (mwd y ad zw (tJ σ 77 f)) → va_S A s.heap H locs → lv_has ls 5 [(3, .int j), (2, .int i), (1, .int k), (0, .ref (ad 1))] → W p l e ({ frames := 2, cells := 0, slots := 0, locals := 46 } : Room) s m ([.ref (ad 1), .int k, .int i] : List Value).toArray below meth c H locs 0 0 Q (F0 m 20 ls []) := by
        intro fu
        induction fu with
        | zero =>
          intro j f H locs ls hj0 hj1 hm
          exact absurd hm (by omega)
        | succ fu ih_loop =>
          intro j f H locs ls hj0 hj1 hm hP hD hS hl
          refine lv_iload_n hx hb dX12_ways_20 rfl (lv_at hl 0 rfl) ?_
          refine lv_aload_n hx hb dX12_ways_21 rfl (lv_at hl 3 rfl) ?_
          refine va_get (D := D) (ci := 11) (v := .ref (ad 62)) (C := RX12) (T := TX12) (N := 85) hx hb hts inX12 hown hK hP 0 mwd_o0 rfl 62 (by decide) fl139 (fun _ h9 => h9) rfl dX12_ways_22 ?_
          refine lv_iconst (v := 0) hx hb dX12_ways_25 (by decide) ?_
          refine va_iald hx hb hK hP 42 2 mwd_a42 rfl (x_in (by decide) (by decide)) dX12_ways_26 ?_
          refine lv_topi (fun i_5 ei_5 => ?_)
          have ei_5 : i_5 = (σ.2.2.1 62) (Int32.toNatClampNeg 0) := ei_5
          have bi_5 := b_at hB62 ei_5
          refine lv_icmp_ge (tgt := 163) hx hb dX12_ways_27 (by decide) (fun c_6 => ?_) (fun c_6 => ?_)
          · have kc_6 : j.toInt ≥ i_5.toInt := by have h9 := c_6; simp only [ge_iff_le, gt_iff_lt, x_lt, x_le, x_eq, ne_eq, Int32.not_lt, Int32.not_le] at h9; omega
            refine lv_aload_n hx hb dX12_ways_163 rfl (lv_at hl 3 rfl) ?_
            refine va_get (D := D) (ci := 11) (v := .ref (ad 77)) (C := RX12) (T := TX12) (N := 85) hx hb hts inX12 hown hK hP 0 mwd_o0 rfl 77 (by decide) fl173 (fun _ h9 => h9) rfl dX12_ways_164 ?_
            refine lv_aload_n hx hb dX12_ways_167 rfl (lv_at hl 3 rfl) ?_
            refine va_get (D := D) (ci := 11) (v := .ref (ad 65)) (C := RX12) (T := TX12) (N := 85) hx hb hts inX12 hown hK hP 0 mwd_o0 rfl 65 (by decide) fl148 (fun _ h9 => h9) rfl dX12_ways_168 ?_
            refine lv_iload_n hx hb dX12_ways_171 rfl (lv_at hl 2 rfl) ?_
            refine va_iald hx hb hK hP 45 2 mwd_a45 rfl (x_in (by omega) (by omega)) dX12_ways_172 ?_
            refine lv_topi (fun i_7 ei_7 => ?_)
            have ei_7 : i_7 = (σ.2.2.1 65) (Int32.toNatClampNeg k) := ei_7
            have bi_7 := b_at hB65 ei_7
            refine va_lald hx hb hK hP 53 3 mwd_a53 rfl (x_in (by omega) (by omega)) dX12_ways_173 ?_
            refine lv_topl (fun j_8 ej_8 => ?_)
            have ej_8 : j_8 = f (Int32.toNatClampNeg i_7) := ej_8
            refine lv_l2i hx hb dX12_ways_174 rfl ?_
            refine lv_topi (fun i_9 ei_9 => ?_)
            exact x_iretW (v := i_9) (u := f) hx hb hr hQ trivial hP hD hK hS dX12_ways_175 hlocks
          · have kc_6 : j.toInt < i_5.toInt := by have h9 := c_6; simp only [ge_iff_le, gt_iff_lt, x_lt, x_le, x_eq, ne_eq, Int32.not_lt, Int32.not_le] at h9; omega
            refine lv_aload_n hx hb dX12_ways_30 rfl (lv_at hl 3 rfl) ?_
            refine va_get (D := D) (ci := 11) (v := .ref (ad 77)) (C := RX12) (T := TX12) (N := 85) hx hb hts inX12 hown hK hP 0 mwd_o0 rfl 77 (by decide) fl173 (fun _ h9 => h9) rfl dX12_ways_31 ?_
            refine lv_iload_n hx hb dX12_ways_34 rfl (lv_at hl 0 rfl) ?_
            refine lv_iload_n hx hb dX12_ways_35 rfl (lv_at hl 0 rfl) ?_
            refine lv_iload_n hx hb dX12_ways_36 rfl (lv_at hl 1 rfl) ?_
            refine lv_icmp_ne (tgt := 44) hx hb dX12_ways_37 (by decide) (fun c_10 => ?_) (fun c_10 => ?_)
            · have kc_10 : j.toInt ≠ i.toInt := by have h9 := c_10; simp only [ge_iff_le, gt_iff_lt, x_lt, x_le, x_eq, ne_eq, Int32.not_lt, Int32.not_le] at h9; omega
              refine lv_lconst (v := 0) hx hb dX12_ways_44 (by decide) ?_
              refine va_last hx hb hK hP hD hS 53 3 mwd_a53 rfl (x_in (by omega) (by omega)) dX12_ways_45 (fun H locs hP hD hS => ?_)
              obtain ⟨f_11, ef_11⟩ : ∃ z9 : Nat → Int64, z9 = (vp_updL f (Int32.toNatClampNeg j) 0) := ⟨_, rfl⟩
              have hP : va_P D vwCl (mwd y ad zw (tJ (tJ σ 77 f) 77 f_11)) H := by rw [ef_11]; exact x_trP hP mwd_s53
              have hD : va_D A (mwd y ad zw (tJ (tJ σ 77 f) 77 f_11)) := by rw [ef_11]; exact x_trD hD mwd_s53
              refine lv_aload_n hx hb dX12_ways_46 rfl (lv_at hl 3 rfl) ?_
              refine va_get (D := D) (ci := 11) (v := .ref (ad 59)) (C := RX12) (T := TX12) (N := 85) hx hb hts inX12 hown hK hP 0 mwd_o0 rfl 59 (by decide) fl130 (fun _ h9 => h9) rfl dX12_ways_47 ?_
              refine lv_iload_n hx hb dX12_ways_50 rfl (lv_at hl 0 rfl) ?_
              refine va_iald hx hb hK hP 39 2 mwd_a39 rfl (x_in (by omega) (by omega)) dX12_ways_51 ?_
              refine lv_topi (fun i_12 ei_12 => ?_)
              have ei_12 : i_12 = (σ.2.2.1 59) (Int32.toNatClampNeg j) := ei_12
              refine lv_if_ne (tgt := 58) hx hb dX12_ways_52 (by decide) (fun c_13 => ?_) (fun c_13 => ?_)
              · have kc_13 : i_12.toInt ≠ 0 := by have h9 := c_13; simp only [ge_iff_le, gt_iff_lt, x_lt, x_le, x_eq, ne_eq, Int32.not_lt, Int32.not_le] at h9; simp only [Int32.reduceToInt] at h9; omega
                refine lv_aload_n hx hb dX12_ways_58 rfl (lv_at hl 3 rfl) ?_
                refine va_get (D := D) (ci := 11) (v := .ref (ad 59)) (C := RX12) (T := TX12) (N := 85) hx hb hts inX12 hown hK hP 0 mwd_o0 rfl 59 (by decide) fl130 (fun _ h9 => h9) rfl dX12_ways_59 ?_
                refine lv_iload_n hx hb dX12_ways_62 rfl (lv_at hl 0 rfl) ?_
                refine va_iald hx hb hK hP 39 2 mwd_a39 rfl (x_in (by omega) (by omega)) dX12_ways_63 ?_
                refine lv_topi (fun i_14 ei_14 => ?_)
                have ei_14 : i_14 = (σ.2.2.1 59) (Int32.toNatClampNeg j) := ei_14
                refine lv_iconst (v := 5) hx hb dX12_ways_64 (by decide) ?_
                refine lv_icmp_eq (tgt := 90) hx hb dX12_ways_65 (by decide) (fun c_15 => ?_) (fun c_15 => ?_)
                · have kc_15 : i_14.toInt = 5 := by have h9 := c_15; simp only [ge_iff_le, gt_iff_lt, x_lt, x_le, x_eq, ne_eq, Int32.not_lt, Int32.not_le] at h9; simp only [Int32.reduceToInt] at h9; omega
                  refine lv_iconst (v := 1) hx hb dX12_ways_90 (by decide) ?_
                  refine lv_goto (tgt := 95) hx hb dX12_ways_91 (by decide) ?_
                  refine lv_istore (lv' := [(4, .int 1), (3, .int j), (2, .int i), (1, .int k), (0, .ref (ad 1))]) hx hb dX12_ways_95 hl (by decide) rfl (fun ls hl => ?_)
                  refine lv_aload_n hx hb dX12_ways_97 rfl (lv_at hl 4 rfl) ?_
                  refine va_get (D := D) (ci := 11) (v := .ref (ad 77)) (C := RX12) (T := TX12) (N := 85) hx hb hts inX12 hown hK hP 0 mwd_o0 rfl 77 (by decide) fl173 (fun _ h9 => h9) rfl dX12_ways_98 ?_
                  refine lv_iload_n hx hb dX12_ways_101 rfl (lv_at hl 1 rfl) ?_
                  refine lv_aload_n hx hb dX12_ways_102 rfl (lv_at hl 4 rfl) ?_
                  refine va_get (D := D) (ci := 11) (v := .ref (ad 77)) (C := RX12) (T := TX12) (N := 85) hx hb hts inX12 hown hK hP 0 mwd_o0 rfl 77 (by decide) fl173 (fun _ h9 => h9) rfl dX12_ways_103 ?_
                  refine lv_aload_n hx hb dX12_ways_106 rfl (lv_at hl 4 rfl) ?_
                  refine va_get (D := D) (ci := 11) (v := .ref (ad 60)) (C := RX12) (T := TX12) (N := 85) hx hb hts inX12 hown hK hP 0 mwd_o0 rfl 60 (by decide) fl133 (fun _ h9 => h9) rfl dX12_ways_107 ?_
                  refine lv_iload_n hx hb dX12_ways_110 rfl (lv_at hl 1 rfl) ?_
                  refine va_iald hx hb hK hP 40 2 mwd_a40 rfl (x_in (by omega) (by omega)) dX12_ways_111 ?_
                  refine lv_topi (fun i_16 ei_16 => ?_)
                  have ei_16 : i_16 = (σ.2.2.1 60) (Int32.toNatClampNeg j) := ei_16
                  have gi_16 := opc_1 hop (x_ne0 ei_12 kc_13) ei_16
                  refine va_lald hx hb hK hP 53 3 mwd_a53 rfl (x_in (by omega) (by omega)) dX12_ways_112 ?_
                  refine lv_topl (fun j_17 ej_17 => ?_)
                  have ej_17 : j_17 = f_11 (Int32.toNatClampNeg i_16) := ej_17
                  refine lv_iload hx hb dX12_ways_113 (lv_at hl 0 rfl) ?_
                  refine lv_if_eq (tgt := 122) hx hb dX12_ways_115 (by decide) (fun c_18 => ?_) (fun c_18 => ?_)
                  · exact absurd c_18 (by decide)
                  · refine lv_lconst (v := 0) hx hb dX12_ways_118 (by decide) ?_
                    refine lv_goto (tgt := 133) hx hb dX12_ways_119 (by decide) ?_
                    refine lv_ladd hx hb dX12_ways_133 ?_
                    refine lv_topl (fun j_19 ej_19 => ?_)
                    refine va_last hx hb hK hP hD hS 53 3 mwd_a53 rfl (x_in (by omega) (by omega)) dX12_ways_134 (fun H locs hP hD hS => ?_)
                    obtain ⟨f_20, ef_20⟩ : ∃ z9 : Nat → Int64, z9 = (vp_updL f_11 (Int32.toNatClampNeg j) j_19) := ⟨_, rfl⟩
                    have hP : va_P D vwCl (mwd y ad zw (tJ (tJ (tJ σ 77 f) 77 f_11) 77 f_20)) H := by rw [ef_20]; exact x_trP hP mwd_s53
                    have hD : va_D A (mwd y ad zw (tJ (tJ (tJ σ 77 f) 77 f_11) 77 f_20)) := by rw [ef_20]; exact x_trD hD mwd_s53
                    refine lv_aload_n hx hb dX12_ways_135 rfl (lv_at hl 4 rfl) ?_
                    refine va_get (D := D) (ci := 11) (v := .ref (ad 77)) (C := RX12) (T := TX12) (N := 85) hx hb hts inX12 hown hK hP 0 mwd_o0 rfl 77 (by decide) fl173 (fun _ h9 => h9) rfl dX12_ways_136 ?_
                    refine lv_iload_n hx hb dX12_ways_139 rfl (lv_at hl 1 rfl) ?_
                    refine va_lald hx hb hK hP 53 3 mwd_a53 rfl (x_in (by omega) (by omega)) dX12_ways_140 ?_
                    refine lv_topl (fun j_21 ej_21 => ?_)
                    have ej_21 : j_21 = f_20 (Int32.toNatClampNeg j) := ej_21
                    refine lv_ldc2 (v := 1000000000) hx hb hown (hts (.constantLong RX12 398 1000000000) (List.mem_of_getElem? (i := 7) rfl)) dX12_ways_141 ?_
                    refine W.lcmp hx hb dX12_ways_144 ?_
                    refine lv_if_le (tgt := 157) hx hb dX12_ways_145 (by decide) (fun c_22 => ?_) (fun c_22 => ?_)
                    · have kc_22 : j_21.toInt ≤ 1000000000 := by have h9 := x_tri j_21 (1000000000 : Int64); (try simp only [Int64.reduceToInt] at h9); rcases h9 with ⟨g1, g2⟩ | ⟨g1, g2⟩ | ⟨g1, g2⟩ <;> first | omega | (exfalso; rw [g1] at c_22; revert c_22; decide)
                      obtain ⟨i_23, ei_23⟩ : ∃ z9 : Int32, z9 = j + 1 := ⟨_, rfl⟩
                      have vi_23 : i_23.toInt = j.toInt + 1 := by have h9 := x_add ei_23 (by omega) (by omega); omega
                      refine lv_iinc (v := i_23) (lv' := [(3, .int i_23), (4, .int 1), (2, .int i), (1, .int k), (0, .ref (ad 1))]) hx hb dX12_ways_157 hl (k := 1) rfl (by rw [ei_23]; rfl) (by decide) rfl (fun ls hl => ?_)
                      refine lv_goto (tgt := 20) hx hb dX12_ways_160 (by decide) ?_
                      have hP : va_P D vwCl (mwd y ad zw (tJ σ 77 f_20)) H := hP
                      have hD : va_D A (mwd y ad zw (tJ σ 77 f_20)) := hD
                      exact ih_loop i_23 f_20 H locs ls (by omega) (by omega) (by omega) hP hD hS (lv_sub hl [0, 2, 3, 4] rfl)
                    · have kc_22 : j_21.toInt > 1000000000 := by have h9 := x_tri j_21 (1000000000 : Int64); (try simp only [Int64.reduceToInt] at h9); rcases h9 with ⟨g1, g2⟩ | ⟨g1, g2⟩ | ⟨g1, g2⟩ <;> first | omega | (exfalso; rw [g1] at c_22; revert c_22; decide)
                      refine lv_aload_n hx hb dX12_ways_148 rfl (lv_at hl 4 rfl) ?_
                      refine va_get (D := D) (ci := 11) (v := .ref (ad 77)) (C := RX12) (T := TX12) (N := 85) hx hb hts inX12 hown hK hP 0 mwd_o0 rfl 77 (by decide) fl173 (fun _ h9 => h9) rfl dX12_ways_149 ?_
                      refine lv_iload_n hx hb dX12_ways_152 rfl (lv_at hl 1 rfl) ?_
                      refine lv_ldc2 (v := 1000000000) hx hb hown (hts (.constantLong RX12 398 1000000000) (List.mem_of_getElem? (i := 7) rfl)) dX12_ways_153 ?_
                      refine va_last hx hb hK hP hD hS 53 3 mwd_a53 rfl (x_in (by omega) (by omega)) dX12_ways_156 (fun H locs hP hD hS => ?_)
                      obtain ⟨f_24, ef_24⟩ : ∃ z9 : Nat → Int64, z9 = (vp_updL f_20 (Int32.toNatClampNeg j) 1000000000) := ⟨_, rfl⟩
                      have hP : va_P D vwCl (mwd y ad zw (tJ (tJ (tJ (tJ σ 77 f) 77 f_11) 77 f_20) 77 f_24)) H := by rw [ef_24]; exact x_trP hP mwd_s53
                      have hD : va_D A (mwd y ad zw (tJ (tJ (tJ (tJ σ 77 f) 77 f_11) 77 f_20) 77 f_24)) := by rw [ef_24]; exact x_trD hD mwd_s53
                      obtain ⟨i_25, ei_25⟩ : ∃ z9 : Int32, z9 = j + 1 := ⟨_, rfl⟩
                      have vi_25 : i_25.toInt = j.toInt + 1 := by have h9 := x_add ei_25 (by omega) (by omega); omega
                      refine lv_iinc (v := i_25) (lv' := [(3, .int i_25), (4, .int 1), (2, .int i), (1, .int k), (0, .ref (ad 1))]) hx hb dX12_ways_157 hl (k := 1) rfl (by rw [ei_25]; rfl) (by decide) rfl (fun ls hl => ?_)
                      refine lv_goto (tgt := 20) hx hb dX12_ways_160 (by decide) ?_
                      have hP : va_P D vwCl (mwd y ad zw (tJ σ 77 f_24)) H := hP
                      have hD : va_D A (mwd y ad zw (tJ σ 77 f_24)) := hD
                      exact ih_loop i_25 f_24 H locs ls (by omega) (by omega) (by omega) hP hD hS (lv_sub hl [0, 2, 3, 4] rfl)
                · have kc_15 : i_14.toInt ≠ 5 := by have h9 := c_15; simp only [ge_iff_le, gt_iff_lt, x_lt, x_le, x_eq, ne_eq, Int32.not_lt, Int32.not_le] at h9; simp only [Int32.reduceToInt] at h9; omega
                  refine lv_aload_n hx hb dX12_ways_68 rfl (lv_at hl 3 rfl) ?_
                  refine va_get (D := D) (ci := 11) (v := .ref (ad 59)) (C := RX12) (T := TX12) (N := 85) hx hb hts inX12 hown hK hP 0 mwd_o0 rfl 59 (by decide) fl130 (fun _ h9 => h9) rfl dX12_ways_69 ?_
                  refine lv_iload_n hx hb dX12_ways_72 rfl (lv_at hl 0 rfl) ?_
                  refine va_iald hx hb hK hP 39 2 mwd_a39 rfl (x_in (by omega) (by omega)) dX12_ways_73 ?_
                  refine lv_topi (fun i_26 ei_26 => ?_)
                  have ei_26 : i_26 = (σ.2.2.1 59) (Int32.toNatClampNeg j) := ei_26
                  refine lv_bipush (v := 6) hx hb dX12_ways_74 (by decide) ?_
                  refine lv_icmp_eq (tgt := 90) hx hb dX12_ways_76 (by decide) (fun c_27 => ?_) (fun c_27 => ?_)
                  · have kc_27 : i_26.toInt = 6 := by have h9 := c_27; simp only [ge_iff_le, gt_iff_lt, x_lt, x_le, x_eq, ne_eq, Int32.not_lt, Int32.not_le] at h9; simp only [Int32.reduceToInt] at h9; omega
                    refine lv_iconst (v := 1) hx hb dX12_ways_90 (by decide) ?_
                    refine lv_goto (tgt := 95) hx hb dX12_ways_91 (by decide) ?_
                    refine lv_istore (lv' := [(4, .int 1), (3, .int j), (2, .int i), (1, .int k), (0, .ref (ad 1))]) hx hb dX12_ways_95 hl (by decide) rfl (fun ls hl => ?_)
                    refine lv_aload_n hx hb dX12_ways_97 rfl (lv_at hl 4 rfl) ?_
                    refine va_get (D := D) (ci := 11) (v := .ref (ad 77)) (C := RX12) (T := TX12) (N := 85) hx hb hts inX12 hown hK hP 0 mwd_o0 rfl 77 (by decide) fl173 (fun _ h9 => h9) rfl dX12_ways_98 ?_
                    refine lv_iload_n hx hb dX12_ways_101 rfl (lv_at hl 1 rfl) ?_
                    refine lv_aload_n hx hb dX12_ways_102 rfl (lv_at hl 4 rfl) ?_
                    refine va_get (D := D) (ci := 11) (v := .ref (ad 77)) (C := RX12) (T := TX12) (N := 85) hx hb hts inX12 hown hK hP 0 mwd_o0 rfl 77 (by decide) fl173 (fun _ h9 => h9) rfl dX12_ways_103 ?_
                    refine lv_aload_n hx hb dX12_ways_106 rfl (lv_at hl 4 rfl) ?_
                    refine va_get (D := D) (ci := 11) (v := .ref (ad 60)) (C := RX12) (T := TX12) (N := 85) hx hb hts inX12 hown hK hP 0 mwd_o0 rfl 60 (by decide) fl133 (fun _ h9 => h9) rfl dX12_ways_107 ?_
                    refine lv_iload_n hx hb dX12_ways_110 rfl (lv_at hl 1 rfl) ?_
                    refine va_iald hx hb hK hP 40 2 mwd_a40 rfl (x_in (by omega) (by omega)) dX12_ways_111 ?_
                    refine lv_topi (fun i_28 ei_28 => ?_)
                    have ei_28 : i_28 = (σ.2.2.1 60) (Int32.toNatClampNeg j) := ei_28
                    have gi_28 := opc_1 hop (x_ne0 ei_12 kc_13) ei_28
                    refine va_lald hx hb hK hP 53 3 mwd_a53 rfl (x_in (by omega) (by omega)) dX12_ways_112 ?_
                    refine lv_topl (fun j_29 ej_29 => ?_)
                    have ej_29 : j_29 = f_11 (Int32.toNatClampNeg i_28) := ej_29
                    refine lv_iload hx hb dX12_ways_113 (lv_at hl 0 rfl) ?_
                    refine lv_if_eq (tgt := 122) hx hb dX12_ways_115 (by decide) (fun c_30 => ?_) (fun c_30 => ?_)
                    · exact absurd c_30 (by decide)
                    · refine lv_lconst (v := 0) hx hb dX12_ways_118 (by decide) ?_
                      refine lv_goto (tgt := 133) hx hb dX12_ways_119 (by decide) ?_
                      refine lv_ladd hx hb dX12_ways_133 ?_
                      refine lv_topl (fun j_31 ej_31 => ?_)
                      refine va_last hx hb hK hP hD hS 53 3 mwd_a53 rfl (x_in (by omega) (by omega)) dX12_ways_134 (fun H locs hP hD hS => ?_)
                      obtain ⟨f_32, ef_32⟩ : ∃ z9 : Nat → Int64, z9 = (vp_updL f_11 (Int32.toNatClampNeg j) j_31) := ⟨_, rfl⟩
                      have hP : va_P D vwCl (mwd y ad zw (tJ (tJ (tJ σ 77 f) 77 f_11) 77 f_32)) H := by rw [ef_32]; exact x_trP hP mwd_s53
                      have hD : va_D A (mwd y ad zw (tJ (tJ (tJ σ 77 f) 77 f_11) 77 f_32)) := by rw [ef_32]; exact x_trD hD mwd_s53
                      refine lv_aload_n hx hb dX12_ways_135 rfl (lv_at hl 4 rfl) ?_
                      refine va_get (D := D) (ci := 11) (v := .ref (ad 77)) (C := RX12) (T := TX12) (N := 85) hx hb hts inX12 hown hK hP 0 mwd_o0 rfl 77 (by decide) fl173 (fun _ h9 => h9) rfl dX12_ways_136 ?_
                      refine lv_iload_n hx hb dX12_ways_139 rfl (lv_at hl 1 rfl) ?_
                      refine va_lald hx hb hK hP 53 3 mwd_a53 rfl (x_in (by omega) (by omega)) dX12_ways_140 ?_
                      refine lv_topl (fun j_33 ej_33 => ?_)
                      have ej_33 : j_33 = f_32 (Int32.toNatClampNeg j) := ej_33
                      refine lv_ldc2 (v := 1000000000) hx hb hown (hts (.constantLong RX12 398 1000000000) (List.mem_of_getElem? (i := 7) rfl)) dX12_ways_141 ?_
                      refine W.lcmp hx hb dX12_ways_144 ?_
                      refine lv_if_le (tgt := 157) hx hb dX12_ways_145 (by decide) (fun c_34 => ?_) (fun c_34 => ?_)
                      · have kc_34 : j_33.toInt ≤ 1000000000 := by have h9 := x_tri j_33 (1000000000 : Int64); (try simp only [Int64.reduceToInt] at h9); rcases h9 with ⟨g1, g2⟩ | ⟨g1, g2⟩ | ⟨g1, g2⟩ <;> first | omega | (exfalso; rw [g1] at c_34; revert c_34; decide)
                        obtain ⟨i_35, ei_35⟩ : ∃ z9 : Int32, z9 = j + 1 := ⟨_, rfl⟩
                        have vi_35 : i_35.toInt = j.toInt + 1 := by have h9 := x_add ei_35 (by omega) (by omega); omega
                        refine lv_iinc (v := i_35) (lv' := [(3, .int i_35), (4, .int 1), (2, .int i), (1, .int k), (0, .ref (ad 1))]) hx hb dX12_ways_157 hl (k := 1) rfl (by rw [ei_35]; rfl) (by decide) rfl (fun ls hl => ?_)
                        refine lv_goto (tgt := 20) hx hb dX12_ways_160 (by decide) ?_
                        have hP : va_P D vwCl (mwd y ad zw (tJ σ 77 f_32)) H := hP
                        have hD : va_D A (mwd y ad zw (tJ σ 77 f_32)) := hD
                        exact ih_loop i_35 f_32 H locs ls (by omega) (by omega) (by omega) hP hD hS (lv_sub hl [0, 2, 3, 4] rfl)
                      · have kc_34 : j_33.toInt > 1000000000 := by have h9 := x_tri j_33 (1000000000 : Int64); (try simp only [Int64.reduceToInt] at h9); rcases h9 with ⟨g1, g2⟩ | ⟨g1, g2⟩ | ⟨g1, g2⟩ <;> first | omega | (exfalso; rw [g1] at c_34; revert c_34; decide)
                        refine lv_aload_n hx hb dX12_ways_148 rfl (lv_at hl 4 rfl) ?_
                        refine va_get (D := D) (ci := 11) (v := .ref (ad 77)) (C := RX12) (T := TX12) (N := 85) hx hb hts inX12 hown hK hP 0 mwd_o0 rfl 77 (by decide) fl173 (fun _ h9 => h9) rfl dX12_ways_149 ?_
                        refine lv_iload_n hx hb dX12_ways_152 rfl (lv_at hl 1 rfl) ?_
                        refine lv_ldc2 (v := 1000000000) hx hb hown (hts (.constantLong RX12 398 1000000000) (List.mem_of_getElem? (i := 7) rfl)) dX12_ways_153 ?_
                        refine va_last hx hb hK hP hD hS 53 3 mwd_a53 rfl (x_in (by omega) (by omega)) dX12_ways_156 (fun H locs hP hD hS => ?_)
                        obtain ⟨f_36, ef_36⟩ : ∃ z9 : Nat → Int64, z9 = (vp_updL f_32 (Int32.toNatClampNeg j) 1000000000) := ⟨_, rfl⟩
                        have hP : va_P D vwCl (mwd y ad zw (tJ (tJ (tJ (tJ σ 77 f) 77 f_11) 77 f_32) 77 f_36)) H := by rw [ef_36]; exact x_trP hP mwd_s53
                        have hD : va_D A (mwd y ad zw (tJ (tJ (tJ (tJ σ 77 f) 77 f_11) 77 f_32) 77 f_36)) := by rw [ef_36]; exact x_trD hD mwd_s53
                        obtain ⟨i_37, ei_37⟩ : ∃ z9 : Int32, z9 = j + 1 := ⟨_, rfl⟩
                        have vi_37 : i_37.toInt = j.toInt + 1 := by have h9 := x_add ei_37 (by omega) (by omega); omega
                        refine lv_iinc (v := i_37) (lv' := [(3, .int i_37), (4, .int 1), (2, .int i), (1, .int k), (0, .ref (ad 1))]) hx hb dX12_ways_157 hl (k := 1) rfl (by rw [ei_37]; rfl) (by decide) rfl (fun ls hl => ?_)
                        refine lv_goto (tgt := 20) hx hb dX12_ways_160 (by decide) ?_
                        have hP : va_P D vwCl (mwd y ad zw (tJ σ 77 f_36)) H := hP
                        have hD : va_D A (mwd y ad zw (tJ σ 77 f_36)) := hD
                        exact ih_loop i_37 f_36 H locs ls (by omega) (by omega) (by omega) hP hD hS (lv_sub hl [0, 2, 3, 4] rfl)
                  · have kc_27 : i_26.toInt ≠ 6 := by have h9 := c_27; simp only [ge_iff_le, gt_iff_lt, x_lt, x_le, x_eq, ne_eq, Int32.not_lt, Int32.not_le] at h9; simp only [Int32.reduceToInt] at h9; omega
                    refine lv_aload_n hx hb dX12_ways_79 rfl (lv_at hl 3 rfl) ?_
                    refine va_get (D := D) (ci := 11) (v := .ref (ad 59)) (C := RX12) (T := TX12) (N := 85) hx hb hts inX12 hown hK hP 0 mwd_o0 rfl 59 (by decide) fl130 (fun _ h9 => h9) rfl dX12_ways_80 ?_
                    refine lv_iload_n hx hb dX12_ways_83 rfl (lv_at hl 0 rfl) ?_
                    refine va_iald hx hb hK hP 39 2 mwd_a39 rfl (x_in (by omega) (by omega)) dX12_ways_84 ?_
                    refine lv_topi (fun i_38 ei_38 => ?_)
                    have ei_38 : i_38 = (σ.2.2.1 59) (Int32.toNatClampNeg j) := ei_38
                    refine lv_bipush (v := 7) hx hb dX12_ways_85 (by decide) ?_
                    refine lv_icmp_ne (tgt := 94) hx hb dX12_ways_87 (by decide) (fun c_39 => ?_) (fun c_39 => ?_)
                    · have kc_39 : i_38.toInt ≠ 7 := by have h9 := c_39; simp only [ge_iff_le, gt_iff_lt, x_lt, x_le, x_eq, ne_eq, Int32.not_lt, Int32.not_le] at h9; simp only [Int32.reduceToInt] at h9; omega
                      refine lv_iconst (v := 0) hx hb dX12_ways_94 (by decide) ?_
                      refine lv_istore (lv' := [(4, .int 0), (3, .int j), (2, .int i), (1, .int k), (0, .ref (ad 1))]) hx hb dX12_ways_95 hl (by decide) rfl (fun ls hl => ?_)
                      refine lv_aload_n hx hb dX12_ways_97 rfl (lv_at hl 4 rfl) ?_
                      refine va_get (D := D) (ci := 11) (v := .ref (ad 77)) (C := RX12) (T := TX12) (N := 85) hx hb hts inX12 hown hK hP 0 mwd_o0 rfl 77 (by decide) fl173 (fun _ h9 => h9) rfl dX12_ways_98 ?_
                      refine lv_iload_n hx hb dX12_ways_101 rfl (lv_at hl 1 rfl) ?_
                      refine lv_aload_n hx hb dX12_ways_102 rfl (lv_at hl 4 rfl) ?_
                      refine va_get (D := D) (ci := 11) (v := .ref (ad 77)) (C := RX12) (T := TX12) (N := 85) hx hb hts inX12 hown hK hP 0 mwd_o0 rfl 77 (by decide) fl173 (fun _ h9 => h9) rfl dX12_ways_103 ?_
                      refine lv_aload_n hx hb dX12_ways_106 rfl (lv_at hl 4 rfl) ?_
                      refine va_get (D := D) (ci := 11) (v := .ref (ad 60)) (C := RX12) (T := TX12) (N := 85) hx hb hts inX12 hown hK hP 0 mwd_o0 rfl 60 (by decide) fl133 (fun _ h9 => h9) rfl dX12_ways_107 ?_
                      refine lv_iload_n hx hb dX12_ways_110 rfl (lv_at hl 1 rfl) ?_
                      refine va_iald hx hb hK hP 40 2 mwd_a40 rfl (x_in (by omega) (by omega)) dX12_ways_111 ?_
                      refine lv_topi (fun i_40 ei_40 => ?_)
                      have ei_40 : i_40 = (σ.2.2.1 60) (Int32.toNatClampNeg j) := ei_40
                      have gi_40 := opc_1 hop (x_ne0 ei_12 kc_13) ei_40
                      refine va_lald hx hb hK hP 53 3 mwd_a53 rfl (x_in (by omega) (by omega)) dX12_ways_112 ?_
                      refine lv_topl (fun j_41 ej_41 => ?_)
                      have ej_41 : j_41 = f_11 (Int32.toNatClampNeg i_40) := ej_41
                      refine lv_iload hx hb dX12_ways_113 (lv_at hl 0 rfl) ?_
                      refine lv_if_eq (tgt := 122) hx hb dX12_ways_115 (by decide) (fun c_42 => ?_) (fun c_42 => ?_)
                      · refine lv_aload_n hx hb dX12_ways_122 rfl (lv_at hl 4 rfl) ?_
                        refine va_get (D := D) (ci := 11) (v := .ref (ad 77)) (C := RX12) (T := TX12) (N := 85) hx hb hts inX12 hown hK hP 0 mwd_o0 rfl 77 (by decide) fl173 (fun _ h9 => h9) rfl dX12_ways_123 ?_
                        refine lv_aload_n hx hb dX12_ways_126 rfl (lv_at hl 4 rfl) ?_
                        refine va_get (D := D) (ci := 11) (v := .ref (ad 61)) (C := RX12) (T := TX12) (N := 85) hx hb hts inX12 hown hK hP 0 mwd_o0 rfl 61 (by decide) fl136 (fun _ h9 => h9) rfl dX12_ways_127 ?_
                        refine lv_iload_n hx hb dX12_ways_130 rfl (lv_at hl 1 rfl) ?_
                        refine va_iald hx hb hK hP 41 2 mwd_a41 rfl (x_in (by omega) (by omega)) dX12_ways_131 ?_
                        refine lv_topi (fun i_43 ei_43 => ?_)
                        have ei_43 : i_43 = (σ.2.2.1 61) (Int32.toNatClampNeg j) := ei_43
                        have gi_43 := opc_2 hop (x_ne0 ei_12 kc_13) ei_43
                        refine va_lald hx hb hK hP 53 3 mwd_a53 rfl (x_in (by omega) (by omega)) dX12_ways_132 ?_
                        refine lv_topl (fun j_44 ej_44 => ?_)
                        have ej_44 : j_44 = f_11 (Int32.toNatClampNeg i_43) := ej_44
                        refine lv_ladd hx hb dX12_ways_133 ?_
                        refine lv_topl (fun j_45 ej_45 => ?_)
                        refine va_last hx hb hK hP hD hS 53 3 mwd_a53 rfl (x_in (by omega) (by omega)) dX12_ways_134 (fun H locs hP hD hS => ?_)
                        obtain ⟨f_46, ef_46⟩ : ∃ z9 : Nat → Int64, z9 = (vp_updL f_11 (Int32.toNatClampNeg j) j_45) := ⟨_, rfl⟩
                        have hP : va_P D vwCl (mwd y ad zw (tJ (tJ (tJ σ 77 f) 77 f_11) 77 f_46)) H := by rw [ef_46]; exact x_trP hP mwd_s53
                        have hD : va_D A (mwd y ad zw (tJ (tJ (tJ σ 77 f) 77 f_11) 77 f_46)) := by rw [ef_46]; exact x_trD hD mwd_s53
                        refine lv_aload_n hx hb dX12_ways_135 rfl (lv_at hl 4 rfl) ?_
                        refine va_get (D := D) (ci := 11) (v := .ref (ad 77)) (C := RX12) (T := TX12) (N := 85) hx hb hts inX12 hown hK hP 0 mwd_o0 rfl 77 (by decide) fl173 (fun _ h9 => h9) rfl dX12_ways_136 ?_
                        refine lv_iload_n hx hb dX12_ways_139 rfl (lv_at hl 1 rfl) ?_
                        refine va_lald hx hb hK hP 53 3 mwd_a53 rfl (x_in (by omega) (by omega)) dX12_ways_140 ?_
                        refine lv_topl (fun j_47 ej_47 => ?_)
                        have ej_47 : j_47 = f_46 (Int32.toNatClampNeg j) := ej_47
                        refine lv_ldc2 (v := 1000000000) hx hb hown (hts (.constantLong RX12 398 1000000000) (List.mem_of_getElem? (i := 7) rfl)) dX12_ways_141 ?_
                        refine W.lcmp hx hb dX12_ways_144 ?_
                        refine lv_if_le (tgt := 157) hx hb dX12_ways_145 (by decide) (fun c_48 => ?_) (fun c_48 => ?_)
                        · have kc_48 : j_47.toInt ≤ 1000000000 := by have h9 := x_tri j_47 (1000000000 : Int64); (try simp only [Int64.reduceToInt] at h9); rcases h9 with ⟨g1, g2⟩ | ⟨g1, g2⟩ | ⟨g1, g2⟩ <;> first | omega | (exfalso; rw [g1] at c_48; revert c_48; decide)
                          obtain ⟨i_49, ei_49⟩ : ∃ z9 : Int32, z9 = j + 1 := ⟨_, rfl⟩
                          have vi_49 : i_49.toInt = j.toInt + 1 := by have h9 := x_add ei_49 (by omega) (by omega); omega
                          refine lv_iinc (v := i_49) (lv' := [(3, .int i_49), (4, .int 0), (2, .int i), (1, .int k), (0, .ref (ad 1))]) hx hb dX12_ways_157 hl (k := 1) rfl (by rw [ei_49]; rfl) (by decide) rfl (fun ls hl => ?_)
                          refine lv_goto (tgt := 20) hx hb dX12_ways_160 (by decide) ?_
                          have hP : va_P D vwCl (mwd y ad zw (tJ σ 77 f_46)) H := hP
                          have hD : va_D A (mwd y ad zw (tJ σ 77 f_46)) := hD
                          exact ih_loop i_49 f_46 H locs ls (by omega) (by omega) (by omega) hP hD hS (lv_sub hl [0, 2, 3, 4] rfl)
                        · have kc_48 : j_47.toInt > 1000000000 := by have h9 := x_tri j_47 (1000000000 : Int64); (try simp only [Int64.reduceToInt] at h9); rcases h9 with ⟨g1, g2⟩ | ⟨g1, g2⟩ | ⟨g1, g2⟩ <;> first | omega | (exfalso; rw [g1] at c_48; revert c_48; decide)
                          refine lv_aload_n hx hb dX12_ways_148 rfl (lv_at hl 4 rfl) ?_
                          refine va_get (D := D) (ci := 11) (v := .ref (ad 77)) (C := RX12) (T := TX12) (N := 85) hx hb hts inX12 hown hK hP 0 mwd_o0 rfl 77 (by decide) fl173 (fun _ h9 => h9) rfl dX12_ways_149 ?_
                          refine lv_iload_n hx hb dX12_ways_152 rfl (lv_at hl 1 rfl) ?_
                          refine lv_ldc2 (v := 1000000000) hx hb hown (hts (.constantLong RX12 398 1000000000) (List.mem_of_getElem? (i := 7) rfl)) dX12_ways_153 ?_
                          refine va_last hx hb hK hP hD hS 53 3 mwd_a53 rfl (x_in (by omega) (by omega)) dX12_ways_156 (fun H locs hP hD hS => ?_)
                          obtain ⟨f_50, ef_50⟩ : ∃ z9 : Nat → Int64, z9 = (vp_updL f_46 (Int32.toNatClampNeg j) 1000000000) := ⟨_, rfl⟩
                          have hP : va_P D vwCl (mwd y ad zw (tJ (tJ (tJ (tJ σ 77 f) 77 f_11) 77 f_46) 77 f_50)) H := by rw [ef_50]; exact x_trP hP mwd_s53
                          have hD : va_D A (mwd y ad zw (tJ (tJ (tJ (tJ σ 77 f) 77 f_11) 77 f_46) 77 f_50)) := by rw [ef_50]; exact x_trD hD mwd_s53
                          obtain ⟨i_51, ei_51⟩ : ∃ z9 : Int32, z9 = j + 1 := ⟨_, rfl⟩
                          have vi_51 : i_51.toInt = j.toInt + 1 := by have h9 := x_add ei_51 (by omega) (by omega); omega
                          refine lv_iinc (v := i_51) (lv' := [(3, .int i_51), (4, .int 0), (2, .int i), (1, .int k), (0, .ref (ad 1))]) hx hb dX12_ways_157 hl (k := 1) rfl (by rw [ei_51]; rfl) (by decide) rfl (fun ls hl => ?_)
                          refine lv_goto (tgt := 20) hx hb dX12_ways_160 (by decide) ?_
                          have hP : va_P D vwCl (mwd y ad zw (tJ σ 77 f_50)) H := hP
                          have hD : va_D A (mwd y ad zw (tJ σ 77 f_50)) := hD
                          exact ih_loop i_51 f_50 H locs ls (by omega) (by omega) (by omega) hP hD hS (lv_sub hl [0, 2, 3, 4] rfl)
                      · exact absurd (by decide) c_42
                    · have kc_39 : i_38.toInt = 7 := by have h9 := c_39; simp only [ge_iff_le, gt_iff_lt, x_lt, x_le, x_eq, ne_eq, Int32.not_lt, Int32.not_le] at h9; simp only [Int32.reduceToInt] at h9; omega
                      refine lv_iconst (v := 1) hx hb dX12_ways_90 (by decide) ?_
                      refine lv_goto (tgt := 95) hx hb dX12_ways_91 (by decide) ?_
                      refine lv_istore (lv' := [(4, .int 1), (3, .int j), (2, .int i), (1, .int k), (0, .ref (ad 1))]) hx hb dX12_ways_95 hl (by decide) rfl (fun ls hl => ?_)
                      refine lv_aload_n hx hb dX12_ways_97 rfl (lv_at hl 4 rfl) ?_
                      refine va_get (D := D) (ci := 11) (v := .ref (ad 77)) (C := RX12) (T := TX12) (N := 85) hx hb hts inX12 hown hK hP 0 mwd_o0 rfl 77 (by decide) fl173 (fun _ h9 => h9) rfl dX12_ways_98 ?_
                      refine lv_iload_n hx hb dX12_ways_101 rfl (lv_at hl 1 rfl) ?_
                      refine lv_aload_n hx hb dX12_ways_102 rfl (lv_at hl 4 rfl) ?_
                      refine va_get (D := D) (ci := 11) (v := .ref (ad 77)) (C := RX12) (T := TX12) (N := 85) hx hb hts inX12 hown hK hP 0 mwd_o0 rfl 77 (by decide) fl173 (fun _ h9 => h9) rfl dX12_ways_103 ?_
                      refine lv_aload_n hx hb dX12_ways_106 rfl (lv_at hl 4 rfl) ?_
                      refine va_get (D := D) (ci := 11) (v := .ref (ad 60)) (C := RX12) (T := TX12) (N := 85) hx hb hts inX12 hown hK hP 0 mwd_o0 rfl 60 (by decide) fl133 (fun _ h9 => h9) rfl dX12_ways_107 ?_
                      refine lv_iload_n hx hb dX12_ways_110 rfl (lv_at hl 1 rfl) ?_
                      refine va_iald hx hb hK hP 40 2 mwd_a40 rfl (x_in (by omega) (by omega)) dX12_ways_111 ?_
                      refine lv_topi (fun i_52 ei_52 => ?_)
                      have ei_52 : i_52 = (σ.2.2.1 60) (Int32.toNatClampNeg j) := ei_52
                      have gi_52 := opc_1 hop (x_ne0 ei_12 kc_13) ei_52
                      refine va_lald hx hb hK hP 53 3 mwd_a53 rfl (x_in (by omega) (by omega)) dX12_ways_112 ?_
                      refine lv_topl (fun j_53 ej_53 => ?_)
                      have ej_53 : j_53 = f_11 (Int32.toNatClampNeg i_52) := ej_53
                      refine lv_iload hx hb dX12_ways_113 (lv_at hl 0 rfl) ?_
                      refine lv_if_eq (tgt := 122) hx hb dX12_ways_115 (by decide) (fun c_54 => ?_) (fun c_54 => ?_)
                      · exact absurd c_54 (by decide)
                      · refine lv_lconst (v := 0) hx hb dX12_ways_118 (by decide) ?_
                        refine lv_goto (tgt := 133) hx hb dX12_ways_119 (by decide) ?_
                        refine lv_ladd hx hb dX12_ways_133 ?_
                        refine lv_topl (fun j_55 ej_55 => ?_)
                        refine va_last hx hb hK hP hD hS 53 3 mwd_a53 rfl (x_in (by omega) (by omega)) dX12_ways_134 (fun H locs hP hD hS => ?_)
                        obtain ⟨f_56, ef_56⟩ : ∃ z9 : Nat → Int64, z9 = (vp_updL f_11 (Int32.toNatClampNeg j) j_55) := ⟨_, rfl⟩
                        have hP : va_P D vwCl (mwd y ad zw (tJ (tJ (tJ σ 77 f) 77 f_11) 77 f_56)) H := by rw [ef_56]; exact x_trP hP mwd_s53
                        have hD : va_D A (mwd y ad zw (tJ (tJ (tJ σ 77 f) 77 f_11) 77 f_56)) := by rw [ef_56]; exact x_trD hD mwd_s53
                        refine lv_aload_n hx hb dX12_ways_135 rfl (lv_at hl 4 rfl) ?_
                        refine va_get (D := D) (ci := 11) (v := .ref (ad 77)) (C := RX12) (T := TX12) (N := 85) hx hb hts inX12 hown hK hP 0 mwd_o0 rfl 77 (by decide) fl173 (fun _ h9 => h9) rfl dX12_ways_136 ?_
                        refine lv_iload_n hx hb dX12_ways_139 rfl (lv_at hl 1 rfl) ?_
                        refine va_lald hx hb hK hP 53 3 mwd_a53 rfl (x_in (by omega) (by omega)) dX12_ways_140 ?_
                        refine lv_topl (fun j_57 ej_57 => ?_)
                        have ej_57 : j_57 = f_56 (Int32.toNatClampNeg j) := ej_57
                        refine lv_ldc2 (v := 1000000000) hx hb hown (hts (.constantLong RX12 398 1000000000) (List.mem_of_getElem? (i := 7) rfl)) dX12_ways_141 ?_
                        refine W.lcmp hx hb dX12_ways_144 ?_
                        refine lv_if_le (tgt := 157) hx hb dX12_ways_145 (by decide) (fun c_58 => ?_) (fun c_58 => ?_)
                        · have kc_58 : j_57.toInt ≤ 1000000000 := by have h9 := x_tri j_57 (1000000000 : Int64); (try simp only [Int64.reduceToInt] at h9); rcases h9 with ⟨g1, g2⟩ | ⟨g1, g2⟩ | ⟨g1, g2⟩ <;> first | omega | (exfalso; rw [g1] at c_58; revert c_58; decide)
                          obtain ⟨i_59, ei_59⟩ : ∃ z9 : Int32, z9 = j + 1 := ⟨_, rfl⟩
                          have vi_59 : i_59.toInt = j.toInt + 1 := by have h9 := x_add ei_59 (by omega) (by omega); omega
                          refine lv_iinc (v := i_59) (lv' := [(3, .int i_59), (4, .int 1), (2, .int i), (1, .int k), (0, .ref (ad 1))]) hx hb dX12_ways_157 hl (k := 1) rfl (by rw [ei_59]; rfl) (by decide) rfl (fun ls hl => ?_)
                          refine lv_goto (tgt := 20) hx hb dX12_ways_160 (by decide) ?_
                          have hP : va_P D vwCl (mwd y ad zw (tJ σ 77 f_56)) H := hP
                          have hD : va_D A (mwd y ad zw (tJ σ 77 f_56)) := hD
                          exact ih_loop i_59 f_56 H locs ls (by omega) (by omega) (by omega) hP hD hS (lv_sub hl [0, 2, 3, 4] rfl)
                        · have kc_58 : j_57.toInt > 1000000000 := by have h9 := x_tri j_57 (1000000000 : Int64); (try simp only [Int64.reduceToInt] at h9); rcases h9 with ⟨g1, g2⟩ | ⟨g1, g2⟩ | ⟨g1, g2⟩ <;> first | omega | (exfalso; rw [g1] at c_58; revert c_58; decide)
                          refine lv_aload_n hx hb dX12_ways_148 rfl (lv_at hl 4 rfl) ?_
                          refine va_get (D := D) (ci := 11) (v := .ref (ad 77)) (C := RX12) (T := TX12) (N := 85) hx hb hts inX12 hown hK hP 0 mwd_o0 rfl 77 (by decide) fl173 (fun _ h9 => h9) rfl dX12_ways_149 ?_
                          refine lv_iload_n hx hb dX12_ways_152 rfl (lv_at hl 1 rfl) ?_
                          refine lv_ldc2 (v := 1000000000) hx hb hown (hts (.constantLong RX12 398 1000000000) (List.mem_of_getElem? (i := 7) rfl)) dX12_ways_153 ?_
                          refine va_last hx hb hK hP hD hS 53 3 mwd_a53 rfl (x_in (by omega) (by omega)) dX12_ways_156 (fun H locs hP hD hS => ?_)
                          obtain ⟨f_60, ef_60⟩ : ∃ z9 : Nat → Int64, z9 = (vp_updL f_56 (Int32.toNatClampNeg j) 1000000000) := ⟨_, rfl⟩
                          have hP : va_P D vwCl (mwd y ad zw (tJ (tJ (tJ (tJ σ 77 f) 77 f_11) 77 f_56) 77 f_60)) H := by rw [ef_60]; exact x_trP hP mwd_s53
                          have hD : va_D A (mwd y ad zw (tJ (tJ (tJ (tJ σ 77 f) 77 f_11) 77 f_56) 77 f_60)) := by rw [ef_60]; exact x_trD hD mwd_s53
                          obtain ⟨i_61, ei_61⟩ : ∃ z9 : Int32, z9 = j + 1 := ⟨_, rfl⟩
                          have vi_61 : i_61.toInt = j.toInt + 1 := by have h9 := x_add ei_61 (by omega) (by omega); omega
                          refine lv_iinc (v := i_61) (lv' := [(3, .int i_61), (4, .int 1), (2, .int i), (1, .int k), (0, .ref (ad 1))]) hx hb dX12_ways_157 hl (k := 1) rfl (by rw [ei_61]; rfl) (by decide) rfl (fun ls hl => ?_)
                          refine lv_goto (tgt := 20) hx hb dX12_ways_160 (by decide) ?_
                          have hP : va_P D vwCl (mwd y ad zw (tJ σ 77 f_60)) H := hP
                          have hD : va_D A (mwd y ad zw (tJ σ 77 f_60)) := hD
                          exact ih_loop i_61 f_60 H locs ls (by omega) (by omega) (by omega) hP hD hS (lv_sub hl [0, 2, 3, 4] rfl)
              · have kc_13 : i_12.toInt = 0 := by have h9 := c_13; simp only [ge_iff_le, gt_iff_lt, x_lt, x_le, x_eq, ne_eq, Int32.not_lt, Int32.not_le] at h9; simp only [Int32.reduceToInt] at h9; omega
                refine lv_goto (tgt := 157) hx hb dX12_ways_55 (by decide) ?_
                obtain ⟨i_62, ei_62⟩ : ∃ z9 : Int32, z9 = j + 1 := ⟨_, rfl⟩
                have vi_62 : i_62.toInt = j.toInt + 1 := by have h9 := x_add ei_62 (by omega) (by omega); omega
                refine lv_iinc (v := i_62) (lv' := [(3, .int i_62), (2, .int i), (1, .int k), (0, .ref (ad 1))]) hx hb dX12_ways_157 hl (k := 0) rfl (by rw [ei_62]; rfl) (by decide) rfl (fun ls hl => ?_)
                refine lv_goto (tgt := 20) hx hb dX12_ways_160 (by decide) ?_
                have hP : va_P D vwCl (mwd y ad zw (tJ σ 77 f_11)) H := hP
                have hD : va_D A (mwd y ad zw (tJ σ 77 f_11)) := hD
                exact ih_loop i_62 f_11 H locs ls (by omega) (by omega) (by omega) hP hD hS (lv_sub hl [0, 1, 2, 3] rfl)
            · have kc_10 : j.toInt = i.toInt := by have h9 := c_10; simp only [ge_iff_le, gt_iff_lt, x_lt, x_le, x_eq, ne_eq, Int32.not_lt, Int32.not_le] at h9; omega
              refine lv_lconst (v := 1) hx hb dX12_ways_40 (by decide) ?_
              refine lv_goto (tgt := 45) hx hb dX12_ways_41 (by decide) ?_
              refine va_last hx hb hK hP hD hS 53 3 mwd_a53 rfl (x_in (by omega) (by omega)) dX12_ways_45 (fun H locs hP hD hS => ?_)
              obtain ⟨f_63, ef_63⟩ : ∃ z9 : Nat → Int64, z9 = (vp_updL f (Int32.toNatClampNeg j) 1) := ⟨_, rfl⟩
              have hP : va_P D vwCl (mwd y ad zw (tJ (tJ σ 77 f) 77 f_63)) H := by rw [ef_63]; exact x_trP hP mwd_s53
              have hD : va_D A (mwd y ad zw (tJ (tJ σ 77 f) 77 f_63)) := by rw [ef_63]; exact x_trD hD mwd_s53
              refine lv_aload_n hx hb dX12_ways_46 rfl (lv_at hl 3 rfl) ?_
              refine va_get (D := D) (ci := 11) (v := .ref (ad 59)) (C := RX12) (T := TX12) (N := 85) hx hb hts inX12 hown hK hP 0 mwd_o0 rfl 59 (by decide) fl130 (fun _ h9 => h9) rfl dX12_ways_47 ?_
              refine lv_iload_n hx hb dX12_ways_50 rfl (lv_at hl 0 rfl) ?_
              refine va_iald hx hb hK hP 39 2 mwd_a39 rfl (x_in (by omega) (by omega)) dX12_ways_51 ?_
              refine lv_topi (fun i_64 ei_64 => ?_)
              have ei_64 : i_64 = (σ.2.2.1 59) (Int32.toNatClampNeg j) := ei_64
              refine lv_if_ne (tgt := 58) hx hb dX12_ways_52 (by decide) (fun c_65 => ?_) (fun c_65 => ?_)
              · have kc_65 : i_64.toInt ≠ 0 := by have h9 := c_65; simp only [ge_iff_le, gt_iff_lt, x_lt, x_le, x_eq, ne_eq, Int32.not_lt, Int32.not_le] at h9; simp only [Int32.reduceToInt] at h9; omega
                refine lv_aload_n hx hb dX12_ways_58 rfl (lv_at hl 3 rfl) ?_
                refine va_get (D := D) (ci := 11) (v := .ref (ad 59)) (C := RX12) (T := TX12) (N := 85) hx hb hts inX12 hown hK hP 0 mwd_o0 rfl 59 (by decide) fl130 (fun _ h9 => h9) rfl dX12_ways_59 ?_
                refine lv_iload_n hx hb dX12_ways_62 rfl (lv_at hl 0 rfl) ?_
                refine va_iald hx hb hK hP 39 2 mwd_a39 rfl (x_in (by omega) (by omega)) dX12_ways_63 ?_
                refine lv_topi (fun i_66 ei_66 => ?_)
                have ei_66 : i_66 = (σ.2.2.1 59) (Int32.toNatClampNeg j) := ei_66
                refine lv_iconst (v := 5) hx hb dX12_ways_64 (by decide) ?_
                refine lv_icmp_eq (tgt := 90) hx hb dX12_ways_65 (by decide) (fun c_67 => ?_) (fun c_67 => ?_)
                · have kc_67 : i_66.toInt = 5 := by have h9 := c_67; simp only [ge_iff_le, gt_iff_lt, x_lt, x_le, x_eq, ne_eq, Int32.not_lt, Int32.not_le] at h9; simp only [Int32.reduceToInt] at h9; omega
                  refine lv_iconst (v := 1) hx hb dX12_ways_90 (by decide) ?_
                  refine lv_goto (tgt := 95) hx hb dX12_ways_91 (by decide) ?_
                  refine lv_istore (lv' := [(4, .int 1), (3, .int j), (2, .int i), (1, .int k), (0, .ref (ad 1))]) hx hb dX12_ways_95 hl (by decide) rfl (fun ls hl => ?_)
                  refine lv_aload_n hx hb dX12_ways_97 rfl (lv_at hl 4 rfl) ?_
                  refine va_get (D := D) (ci := 11) (v := .ref (ad 77)) (C := RX12) (T := TX12) (N := 85) hx hb hts inX12 hown hK hP 0 mwd_o0 rfl 77 (by decide) fl173 (fun _ h9 => h9) rfl dX12_ways_98 ?_
                  refine lv_iload_n hx hb dX12_ways_101 rfl (lv_at hl 1 rfl) ?_
                  refine lv_aload_n hx hb dX12_ways_102 rfl (lv_at hl 4 rfl) ?_
                  refine va_get (D := D) (ci := 11) (v := .ref (ad 77)) (C := RX12) (T := TX12) (N := 85) hx hb hts inX12 hown hK hP 0 mwd_o0 rfl 77 (by decide) fl173 (fun _ h9 => h9) rfl dX12_ways_103 ?_
                  refine lv_aload_n hx hb dX12_ways_106 rfl (lv_at hl 4 rfl) ?_
                  refine va_get (D := D) (ci := 11) (v := .ref (ad 60)) (C := RX12) (T := TX12) (N := 85) hx hb hts inX12 hown hK hP 0 mwd_o0 rfl 60 (by decide) fl133 (fun _ h9 => h9) rfl dX12_ways_107 ?_
                  refine lv_iload_n hx hb dX12_ways_110 rfl (lv_at hl 1 rfl) ?_
                  refine va_iald hx hb hK hP 40 2 mwd_a40 rfl (x_in (by omega) (by omega)) dX12_ways_111 ?_
                  refine lv_topi (fun i_68 ei_68 => ?_)
                  have ei_68 : i_68 = (σ.2.2.1 60) (Int32.toNatClampNeg j) := ei_68
                  have gi_68 := opc_1 hop (x_ne0 ei_64 kc_65) ei_68
                  refine va_lald hx hb hK hP 53 3 mwd_a53 rfl (x_in (by omega) (by omega)) dX12_ways_112 ?_
                  refine lv_topl (fun j_69 ej_69 => ?_)
                  have ej_69 : j_69 = f_63 (Int32.toNatClampNeg i_68) := ej_69
                  refine lv_iload hx hb dX12_ways_113 (lv_at hl 0 rfl) ?_
                  refine lv_if_eq (tgt := 122) hx hb dX12_ways_115 (by decide) (fun c_70 => ?_) (fun c_70 => ?_)
                  · exact absurd c_70 (by decide)
                  · refine lv_lconst (v := 0) hx hb dX12_ways_118 (by decide) ?_
                    refine lv_goto (tgt := 133) hx hb dX12_ways_119 (by decide) ?_
                    refine lv_ladd hx hb dX12_ways_133 ?_
                    refine lv_topl (fun j_71 ej_71 => ?_)
                    refine va_last hx hb hK hP hD hS 53 3 mwd_a53 rfl (x_in (by omega) (by omega)) dX12_ways_134 (fun H locs hP hD hS => ?_)
                    obtain ⟨f_72, ef_72⟩ : ∃ z9 : Nat → Int64, z9 = (vp_updL f_63 (Int32.toNatClampNeg j) j_71) := ⟨_, rfl⟩
                    have hP : va_P D vwCl (mwd y ad zw (tJ (tJ (tJ σ 77 f) 77 f_63) 77 f_72)) H := by rw [ef_72]; exact x_trP hP mwd_s53
                    have hD : va_D A (mwd y ad zw (tJ (tJ (tJ σ 77 f) 77 f_63) 77 f_72)) := by rw [ef_72]; exact x_trD hD mwd_s53
                    refine lv_aload_n hx hb dX12_ways_135 rfl (lv_at hl 4 rfl) ?_
                    refine va_get (D := D) (ci := 11) (v := .ref (ad 77)) (C := RX12) (T := TX12) (N := 85) hx hb hts inX12 hown hK hP 0 mwd_o0 rfl 77 (by decide) fl173 (fun _ h9 => h9) rfl dX12_ways_136 ?_
                    refine lv_iload_n hx hb dX12_ways_139 rfl (lv_at hl 1 rfl) ?_
                    refine va_lald hx hb hK hP 53 3 mwd_a53 rfl (x_in (by omega) (by omega)) dX12_ways_140 ?_
                    refine lv_topl (fun j_73 ej_73 => ?_)
                    have ej_73 : j_73 = f_72 (Int32.toNatClampNeg j) := ej_73
                    refine lv_ldc2 (v := 1000000000) hx hb hown (hts (.constantLong RX12 398 1000000000) (List.mem_of_getElem? (i := 7) rfl)) dX12_ways_141 ?_
                    refine W.lcmp hx hb dX12_ways_144 ?_
                    refine lv_if_le (tgt := 157) hx hb dX12_ways_145 (by decide) (fun c_74 => ?_) (fun c_74 => ?_)
                    · have kc_74 : j_73.toInt ≤ 1000000000 := by have h9 := x_tri j_73 (1000000000 : Int64); (try simp only [Int64.reduceToInt] at h9); rcases h9 with ⟨g1, g2⟩ | ⟨g1, g2⟩ | ⟨g1, g2⟩ <;> first | omega | (exfalso; rw [g1] at c_74; revert c_74; decide)
                      obtain ⟨i_75, ei_75⟩ : ∃ z9 : Int32, z9 = j + 1 := ⟨_, rfl⟩
                      have vi_75 : i_75.toInt = j.toInt + 1 := by have h9 := x_add ei_75 (by omega) (by omega); omega
                      refine lv_iinc (v := i_75) (lv' := [(3, .int i_75), (4, .int 1), (2, .int i), (1, .int k), (0, .ref (ad 1))]) hx hb dX12_ways_157 hl (k := 1) rfl (by rw [ei_75]; rfl) (by decide) rfl (fun ls hl => ?_)
                      refine lv_goto (tgt := 20) hx hb dX12_ways_160 (by decide) ?_
                      have hP : va_P D vwCl (mwd y ad zw (tJ σ 77 f_72)) H := hP
                      have hD : va_D A (mwd y ad zw (tJ σ 77 f_72)) := hD
                      exact ih_loop i_75 f_72 H locs ls (by omega) (by omega) (by omega) hP hD hS (lv_sub hl [0, 2, 3, 4] rfl)
                    · have kc_74 : j_73.toInt > 1000000000 := by have h9 := x_tri j_73 (1000000000 : Int64); (try simp only [Int64.reduceToInt] at h9); rcases h9 with ⟨g1, g2⟩ | ⟨g1, g2⟩ | ⟨g1, g2⟩ <;> first | omega | (exfalso; rw [g1] at c_74; revert c_74; decide)
                      refine lv_aload_n hx hb dX12_ways_148 rfl (lv_at hl 4 rfl) ?_
                      refine va_get (D := D) (ci := 11) (v := .ref (ad 77)) (C := RX12) (T := TX12) (N := 85) hx hb hts inX12 hown hK hP 0 mwd_o0 rfl 77 (by decide) fl173 (fun _ h9 => h9) rfl dX12_ways_149 ?_
                      refine lv_iload_n hx hb dX12_ways_152 rfl (lv_at hl 1 rfl) ?_
                      refine lv_ldc2 (v := 1000000000) hx hb hown (hts (.constantLong RX12 398 1000000000) (List.mem_of_getElem? (i := 7) rfl)) dX12_ways_153 ?_
                      refine va_last hx hb hK hP hD hS 53 3 mwd_a53 rfl (x_in (by omega) (by omega)) dX12_ways_156 (fun H locs hP hD hS => ?_)
                      obtain ⟨f_76, ef_76⟩ : ∃ z9 : Nat → Int64, z9 = (vp_updL f_72 (Int32.toNatClampNeg j) 1000000000) := ⟨_, rfl⟩
                      have hP : va_P D vwCl (mwd y ad zw (tJ (tJ (tJ (tJ σ 77 f) 77 f_63) 77 f_72) 77 f_76)) H := by rw [ef_76]; exact x_trP hP mwd_s53
                      have hD : va_D A (mwd y ad zw (tJ (tJ (tJ (tJ σ 77 f) 77 f_63) 77 f_72) 77 f_76)) := by rw [ef_76]; exact x_trD hD mwd_s53
                      obtain ⟨i_77, ei_77⟩ : ∃ z9 : Int32, z9 = j + 1 := ⟨_, rfl⟩
                      have vi_77 : i_77.toInt = j.toInt + 1 := by have h9 := x_add ei_77 (by omega) (by omega); omega
                      refine lv_iinc (v := i_77) (lv' := [(3, .int i_77), (4, .int 1), (2, .int i), (1, .int k), (0, .ref (ad 1))]) hx hb dX12_ways_157 hl (k := 1) rfl (by rw [ei_77]; rfl) (by decide) rfl (fun ls hl => ?_)
                      refine lv_goto (tgt := 20) hx hb dX12_ways_160 (by decide) ?_
                      have hP : va_P D vwCl (mwd y ad zw (tJ σ 77 f_76)) H := hP
                      have hD : va_D A (mwd y ad zw (tJ σ 77 f_76)) := hD
                      exact ih_loop i_77 f_76 H locs ls (by omega) (by omega) (by omega) hP hD hS (lv_sub hl [0, 2, 3, 4] rfl)
                · have kc_67 : i_66.toInt ≠ 5 := by have h9 := c_67; simp only [ge_iff_le, gt_iff_lt, x_lt, x_le, x_eq, ne_eq, Int32.not_lt, Int32.not_le] at h9; simp only [Int32.reduceToInt] at h9; omega
                  refine lv_aload_n hx hb dX12_ways_68 rfl (lv_at hl 3 rfl) ?_
                  refine va_get (D := D) (ci := 11) (v := .ref (ad 59)) (C := RX12) (T := TX12) (N := 85) hx hb hts inX12 hown hK hP 0 mwd_o0 rfl 59 (by decide) fl130 (fun _ h9 => h9) rfl dX12_ways_69 ?_
                  refine lv_iload_n hx hb dX12_ways_72 rfl (lv_at hl 0 rfl) ?_
                  refine va_iald hx hb hK hP 39 2 mwd_a39 rfl (x_in (by omega) (by omega)) dX12_ways_73 ?_
                  refine lv_topi (fun i_78 ei_78 => ?_)
                  have ei_78 : i_78 = (σ.2.2.1 59) (Int32.toNatClampNeg j) := ei_78
                  refine lv_bipush (v := 6) hx hb dX12_ways_74 (by decide) ?_
                  refine lv_icmp_eq (tgt := 90) hx hb dX12_ways_76 (by decide) (fun c_79 => ?_) (fun c_79 => ?_)
                  · have kc_79 : i_78.toInt = 6 := by have h9 := c_79; simp only [ge_iff_le, gt_iff_lt, x_lt, x_le, x_eq, ne_eq, Int32.not_lt, Int32.not_le] at h9; simp only [Int32.reduceToInt] at h9; omega
                    refine lv_iconst (v := 1) hx hb dX12_ways_90 (by decide) ?_
                    refine lv_goto (tgt := 95) hx hb dX12_ways_91 (by decide) ?_
                    refine lv_istore (lv' := [(4, .int 1), (3, .int j), (2, .int i), (1, .int k), (0, .ref (ad 1))]) hx hb dX12_ways_95 hl (by decide) rfl (fun ls hl => ?_)
                    refine lv_aload_n hx hb dX12_ways_97 rfl (lv_at hl 4 rfl) ?_
                    refine va_get (D := D) (ci := 11) (v := .ref (ad 77)) (C := RX12) (T := TX12) (N := 85) hx hb hts inX12 hown hK hP 0 mwd_o0 rfl 77 (by decide) fl173 (fun _ h9 => h9) rfl dX12_ways_98 ?_
                    refine lv_iload_n hx hb dX12_ways_101 rfl (lv_at hl 1 rfl) ?_
                    refine lv_aload_n hx hb dX12_ways_102 rfl (lv_at hl 4 rfl) ?_
                    refine va_get (D := D) (ci := 11) (v := .ref (ad 77)) (C := RX12) (T := TX12) (N := 85) hx hb hts inX12 hown hK hP 0 mwd_o0 rfl 77 (by decide) fl173 (fun _ h9 => h9) rfl dX12_ways_103 ?_
                    refine lv_aload_n hx hb dX12_ways_106 rfl (lv_at hl 4 rfl) ?_
                    refine va_get (D := D) (ci := 11) (v := .ref (ad 60)) (C := RX12) (T := TX12) (N := 85) hx hb hts inX12 hown hK hP 0 mwd_o0 rfl 60 (by decide) fl133 (fun _ h9 => h9) rfl dX12_ways_107 ?_
                    refine lv_iload_n hx hb dX12_ways_110 rfl (lv_at hl 1 rfl) ?_
                    refine va_iald hx hb hK hP 40 2 mwd_a40 rfl (x_in (by omega) (by omega)) dX12_ways_111 ?_
                    refine lv_topi (fun i_80 ei_80 => ?_)
                    have ei_80 : i_80 = (σ.2.2.1 60) (Int32.toNatClampNeg j) := ei_80
                    have gi_80 := opc_1 hop (x_ne0 ei_64 kc_65) ei_80
                    refine va_lald hx hb hK hP 53 3 mwd_a53 rfl (x_in (by omega) (by omega)) dX12_ways_112 ?_
                    refine lv_topl (fun j_81 ej_81 => ?_)
                    have ej_81 : j_81 = f_63 (Int32.toNatClampNeg i_80) := ej_81
                    refine lv_iload hx hb dX12_ways_113 (lv_at hl 0 rfl) ?_
                    refine lv_if_eq (tgt := 122) hx hb dX12_ways_115 (by decide) (fun c_82 => ?_) (fun c_82 => ?_)
                    · exact absurd c_82 (by decide)
                    · refine lv_lconst (v := 0) hx hb dX12_ways_118 (by decide) ?_
                      refine lv_goto (tgt := 133) hx hb dX12_ways_119 (by decide) ?_
                      refine lv_ladd hx hb dX12_ways_133 ?_
                      refine lv_topl (fun j_83 ej_83 => ?_)
                      refine va_last hx hb hK hP hD hS 53 3 mwd_a53 rfl (x_in (by omega) (by omega)) dX12_ways_134 (fun H locs hP hD hS => ?_)
                      obtain ⟨f_84, ef_84⟩ : ∃ z9 : Nat → Int64, z9 = (vp_updL f_63 (Int32.toNatClampNeg j) j_83) := ⟨_, rfl⟩
                      have hP : va_P D vwCl (mwd y ad zw (tJ (tJ (tJ σ 77 f) 77 f_63) 77 f_84)) H := by rw [ef_84]; exact x_trP hP mwd_s53
                      have hD : va_D A (mwd y ad zw (tJ (tJ (tJ σ 77 f) 77 f_63) 77 f_84)) := by rw [ef_84]; exact x_trD hD mwd_s53
                      refine lv_aload_n hx hb dX12_ways_135 rfl (lv_at hl 4 rfl) ?_
                      refine va_get (D := D) (ci := 11) (v := .ref (ad 77)) (C := RX12) (T := TX12) (N := 85) hx hb hts inX12 hown hK hP 0 mwd_o0 rfl 77 (by decide) fl173 (fun _ h9 => h9) rfl dX12_ways_136 ?_
                      refine lv_iload_n hx hb dX12_ways_139 rfl (lv_at hl 1 rfl) ?_
                      refine va_lald hx hb hK hP 53 3 mwd_a53 rfl (x_in (by omega) (by omega)) dX12_ways_140 ?_
                      refine lv_topl (fun j_85 ej_85 => ?_)
                      have ej_85 : j_85 = f_84 (Int32.toNatClampNeg j) := ej_85
                      refine lv_ldc2 (v := 1000000000) hx hb hown (hts (.constantLong RX12 398 1000000000) (List.mem_of_getElem? (i := 7) rfl)) dX12_ways_141 ?_
                      refine W.lcmp hx hb dX12_ways_144 ?_
                      refine lv_if_le (tgt := 157) hx hb dX12_ways_145 (by decide) (fun c_86 => ?_) (fun c_86 => ?_)
                      · have kc_86 : j_85.toInt ≤ 1000000000 := by have h9 := x_tri j_85 (1000000000 : Int64); (try simp only [Int64.reduceToInt] at h9); rcases h9 with ⟨g1, g2⟩ | ⟨g1, g2⟩ | ⟨g1, g2⟩ <;> first | omega | (exfalso; rw [g1] at c_86; revert c_86; decide)
                        obtain ⟨i_87, ei_87⟩ : ∃ z9 : Int32, z9 = j + 1 := ⟨_, rfl⟩
                        have vi_87 : i_87.toInt = j.toInt + 1 := by have h9 := x_add ei_87 (by omega) (by omega); omega
                        refine lv_iinc (v := i_87) (lv' := [(3, .int i_87), (4, .int 1), (2, .int i), (1, .int k), (0, .ref (ad 1))]) hx hb dX12_ways_157 hl (k := 1) rfl (by rw [ei_87]; rfl) (by decide) rfl (fun ls hl => ?_)
                        refine lv_goto (tgt := 20) hx hb dX12_ways_160 (by decide) ?_
                        have hP : va_P D vwCl (mwd y ad zw (tJ σ 77 f_84)) H := hP
                        have hD : va_D A (mwd y ad zw (tJ σ 77 f_84)) := hD
                        exact ih_loop i_87 f_84 H locs ls (by omega) (by omega) (by omega) hP hD hS (lv_sub hl [0, 2, 3, 4] rfl)
                      · have kc_86 : j_85.toInt > 1000000000 := by have h9 := x_tri j_85 (1000000000 : Int64); (try simp only [Int64.reduceToInt] at h9); rcases h9 with ⟨g1, g2⟩ | ⟨g1, g2⟩ | ⟨g1, g2⟩ <;> first | omega | (exfalso; rw [g1] at c_86; revert c_86; decide)
                        refine lv_aload_n hx hb dX12_ways_148 rfl (lv_at hl 4 rfl) ?_
                        refine va_get (D := D) (ci := 11) (v := .ref (ad 77)) (C := RX12) (T := TX12) (N := 85) hx hb hts inX12 hown hK hP 0 mwd_o0 rfl 77 (by decide) fl173 (fun _ h9 => h9) rfl dX12_ways_149 ?_
                        refine lv_iload_n hx hb dX12_ways_152 rfl (lv_at hl 1 rfl) ?_
                        refine lv_ldc2 (v := 1000000000) hx hb hown (hts (.constantLong RX12 398 1000000000) (List.mem_of_getElem? (i := 7) rfl)) dX12_ways_153 ?_
                        refine va_last hx hb hK hP hD hS 53 3 mwd_a53 rfl (x_in (by omega) (by omega)) dX12_ways_156 (fun H locs hP hD hS => ?_)
                        obtain ⟨f_88, ef_88⟩ : ∃ z9 : Nat → Int64, z9 = (vp_updL f_84 (Int32.toNatClampNeg j) 1000000000) := ⟨_, rfl⟩
                        have hP : va_P D vwCl (mwd y ad zw (tJ (tJ (tJ (tJ σ 77 f) 77 f_63) 77 f_84) 77 f_88)) H := by rw [ef_88]; exact x_trP hP mwd_s53
                        have hD : va_D A (mwd y ad zw (tJ (tJ (tJ (tJ σ 77 f) 77 f_63) 77 f_84) 77 f_88)) := by rw [ef_88]; exact x_trD hD mwd_s53
                        obtain ⟨i_89, ei_89⟩ : ∃ z9 : Int32, z9 = j + 1 := ⟨_, rfl⟩
                        have vi_89 : i_89.toInt = j.toInt + 1 := by have h9 := x_add ei_89 (by omega) (by omega); omega
                        refine lv_iinc (v := i_89) (lv' := [(3, .int i_89), (4, .int 1), (2, .int i), (1, .int k), (0, .ref (ad 1))]) hx hb dX12_ways_157 hl (k := 1) rfl (by rw [ei_89]; rfl) (by decide) rfl (fun ls hl => ?_)
                        refine lv_goto (tgt := 20) hx hb dX12_ways_160 (by decide) ?_
                        have hP : va_P D vwCl (mwd y ad zw (tJ σ 77 f_88)) H := hP
                        have hD : va_D A (mwd y ad zw (tJ σ 77 f_88)) := hD
                        exact ih_loop i_89 f_88 H locs ls (by omega) (by omega) (by omega) hP hD hS (lv_sub hl [0, 2, 3, 4] rfl)
                  · have kc_79 : i_78.toInt ≠ 6 := by have h9 := c_79; simp only [ge_iff_le, gt_iff_lt, x_lt, x_le, x_eq, ne_eq, Int32.not_lt, Int32.not_le] at h9; simp only [Int32.reduceToInt] at h9; omega
                    refine lv_aload_n hx hb dX12_ways_79 rfl (lv_at hl 3 rfl) ?_
                    refine va_get (D := D) (ci := 11) (v := .ref (ad 59)) (C := RX12) (T := TX12) (N := 85) hx hb hts inX12 hown hK hP 0 mwd_o0 rfl 59 (by decide) fl130 (fun _ h9 => h9) rfl dX12_ways_80 ?_
                    refine lv_iload_n hx hb dX12_ways_83 rfl (lv_at hl 0 rfl) ?_
                    refine va_iald hx hb hK hP 39 2 mwd_a39 rfl (x_in (by omega) (by omega)) dX12_ways_84 ?_
                    refine lv_topi (fun i_90 ei_90 => ?_)
                    have ei_90 : i_90 = (σ.2.2.1 59) (Int32.toNatClampNeg j) := ei_90
                    refine lv_bipush (v := 7) hx hb dX12_ways_85 (by decide) ?_
                    refine lv_icmp_ne (tgt := 94) hx hb dX12_ways_87 (by decide) (fun c_91 => ?_) (fun c_91 => ?_)
                    · have kc_91 : i_90.toInt ≠ 7 := by have h9 := c_91; simp only [ge_iff_le, gt_iff_lt, x_lt, x_le, x_eq, ne_eq, Int32.not_lt, Int32.not_le] at h9; simp only [Int32.reduceToInt] at h9; omega
                      refine lv_iconst (v := 0) hx hb dX12_ways_94 (by decide) ?_
                      refine lv_istore (lv' := [(4, .int 0), (3, .int j), (2, .int i), (1, .int k), (0, .ref (ad 1))]) hx hb dX12_ways_95 hl (by decide) rfl (fun ls hl => ?_)
                      refine lv_aload_n hx hb dX12_ways_97 rfl (lv_at hl 4 rfl) ?_
                      refine va_get (D := D) (ci := 11) (v := .ref (ad 77)) (C := RX12) (T := TX12) (N := 85) hx hb hts inX12 hown hK hP 0 mwd_o0 rfl 77 (by decide) fl173 (fun _ h9 => h9) rfl dX12_ways_98 ?_
                      refine lv_iload_n hx hb dX12_ways_101 rfl (lv_at hl 1 rfl) ?_
                      refine lv_aload_n hx hb dX12_ways_102 rfl (lv_at hl 4 rfl) ?_
                      refine va_get (D := D) (ci := 11) (v := .ref (ad 77)) (C := RX12) (T := TX12) (N := 85) hx hb hts inX12 hown hK hP 0 mwd_o0 rfl 77 (by decide) fl173 (fun _ h9 => h9) rfl dX12_ways_103 ?_
                      refine lv_aload_n hx hb dX12_ways_106 rfl (lv_at hl 4 rfl) ?_
                      refine va_get (D := D) (ci := 11) (v := .ref (ad 60)) (C := RX12) (T := TX12) (N := 85) hx hb hts inX12 hown hK hP 0 mwd_o0 rfl 60 (by decide) fl133 (fun _ h9 => h9) rfl dX12_ways_107 ?_
                      refine lv_iload_n hx hb dX12_ways_110 rfl (lv_at hl 1 rfl) ?_
                      refine va_iald hx hb hK hP 40 2 mwd_a40 rfl (x_in (by omega) (by omega)) dX12_ways_111 ?_
                      refine lv_topi (fun i_92 ei_92 => ?_)
                      have ei_92 : i_92 = (σ.2.2.1 60) (Int32.toNatClampNeg j) := ei_92
                      have gi_92 := opc_1 hop (x_ne0 ei_64 kc_65) ei_92
                      refine va_lald hx hb hK hP 53 3 mwd_a53 rfl (x_in (by omega) (by omega)) dX12_ways_112 ?_
                      refine lv_topl (fun j_93 ej_93 => ?_)
                      have ej_93 : j_93 = f_63 (Int32.toNatClampNeg i_92) := ej_93
                      refine lv_iload hx hb dX12_ways_113 (lv_at hl 0 rfl) ?_
                      refine lv_if_eq (tgt := 122) hx hb dX12_ways_115 (by decide) (fun c_94 => ?_) (fun c_94 => ?_)
                      · refine lv_aload_n hx hb dX12_ways_122 rfl (lv_at hl 4 rfl) ?_
                        refine va_get (D := D) (ci := 11) (v := .ref (ad 77)) (C := RX12) (T := TX12) (N := 85) hx hb hts inX12 hown hK hP 0 mwd_o0 rfl 77 (by decide) fl173 (fun _ h9 => h9) rfl dX12_ways_123 ?_
                        refine lv_aload_n hx hb dX12_ways_126 rfl (lv_at hl 4 rfl) ?_
                        refine va_get (D := D) (ci := 11) (v := .ref (ad 61)) (C := RX12) (T := TX12) (N := 85) hx hb hts inX12 hown hK hP 0 mwd_o0 rfl 61 (by decide) fl136 (fun _ h9 => h9) rfl dX12_ways_127 ?_
                        refine lv_iload_n hx hb dX12_ways_130 rfl (lv_at hl 1 rfl) ?_
                        refine va_iald hx hb hK hP 41 2 mwd_a41 rfl (x_in (by omega) (by omega)) dX12_ways_131 ?_
                        refine lv_topi (fun i_95 ei_95 => ?_)
                        have ei_95 : i_95 = (σ.2.2.1 61) (Int32.toNatClampNeg j) := ei_95
                        have gi_95 := opc_2 hop (x_ne0 ei_64 kc_65) ei_95
                        refine va_lald hx hb hK hP 53 3 mwd_a53 rfl (x_in (by omega) (by omega)) dX12_ways_132 ?_
                        refine lv_topl (fun j_96 ej_96 => ?_)
                        have ej_96 : j_96 = f_63 (Int32.toNatClampNeg i_95) := ej_96
                        refine lv_ladd hx hb dX12_ways_133 ?_
                        refine lv_topl (fun j_97 ej_97 => ?_)
                        refine va_last hx hb hK hP hD hS 53 3 mwd_a53 rfl (x_in (by omega) (by omega)) dX12_ways_134 (fun H locs hP hD hS => ?_)
                        obtain ⟨f_98, ef_98⟩ : ∃ z9 : Nat → Int64, z9 = (vp_updL f_63 (Int32.toNatClampNeg j) j_97) := ⟨_, rfl⟩
                        have hP : va_P D vwCl (mwd y ad zw (tJ (tJ (tJ σ 77 f) 77 f_63) 77 f_98)) H := by rw [ef_98]; exact x_trP hP mwd_s53
                        have hD : va_D A (mwd y ad zw (tJ (tJ (tJ σ 77 f) 77 f_63) 77 f_98)) := by rw [ef_98]; exact x_trD hD mwd_s53
                        refine lv_aload_n hx hb dX12_ways_135 rfl (lv_at hl 4 rfl) ?_
                        refine va_get (D := D) (ci := 11) (v := .ref (ad 77)) (C := RX12) (T := TX12) (N := 85) hx hb hts inX12 hown hK hP 0 mwd_o0 rfl 77 (by decide) fl173 (fun _ h9 => h9) rfl dX12_ways_136 ?_
                        refine lv_iload_n hx hb dX12_ways_139 rfl (lv_at hl 1 rfl) ?_
                        refine va_lald hx hb hK hP 53 3 mwd_a53 rfl (x_in (by omega) (by omega)) dX12_ways_140 ?_
                        refine lv_topl (fun j_99 ej_99 => ?_)
                        have ej_99 : j_99 = f_98 (Int32.toNatClampNeg j) := ej_99
                        refine lv_ldc2 (v := 1000000000) hx hb hown (hts (.constantLong RX12 398 1000000000) (List.mem_of_getElem? (i := 7) rfl)) dX12_ways_141 ?_
                        refine W.lcmp hx hb dX12_ways_144 ?_
                        refine lv_if_le (tgt := 157) hx hb dX12_ways_145 (by decide) (fun c_100 => ?_) (fun c_100 => ?_)
                        · have kc_100 : j_99.toInt ≤ 1000000000 := by have h9 := x_tri j_99 (1000000000 : Int64); (try simp only [Int64.reduceToInt] at h9); rcases h9 with ⟨g1, g2⟩ | ⟨g1, g2⟩ | ⟨g1, g2⟩ <;> first | omega | (exfalso; rw [g1] at c_100; revert c_100; decide)
                          obtain ⟨i_101, ei_101⟩ : ∃ z9 : Int32, z9 = j + 1 := ⟨_, rfl⟩
                          have vi_101 : i_101.toInt = j.toInt + 1 := by have h9 := x_add ei_101 (by omega) (by omega); omega
                          refine lv_iinc (v := i_101) (lv' := [(3, .int i_101), (4, .int 0), (2, .int i), (1, .int k), (0, .ref (ad 1))]) hx hb dX12_ways_157 hl (k := 1) rfl (by rw [ei_101]; rfl) (by decide) rfl (fun ls hl => ?_)
                          refine lv_goto (tgt := 20) hx hb dX12_ways_160 (by decide) ?_
                          have hP : va_P D vwCl (mwd y ad zw (tJ σ 77 f_98)) H := hP
                          have hD : va_D A (mwd y ad zw (tJ σ 77 f_98)) := hD
                          exact ih_loop i_101 f_98 H locs ls (by omega) (by omega) (by omega) hP hD hS (lv_sub hl [0, 2, 3, 4] rfl)
                        · have kc_100 : j_99.toInt > 1000000000 := by have h9 := x_tri j_99 (1000000000 : Int64); (try simp only [Int64.reduceToInt] at h9); rcases h9 with ⟨g1, g2⟩ | ⟨g1, g2⟩ | ⟨g1, g2⟩ <;> first | omega | (exfalso; rw [g1] at c_100; revert c_100; decide)
                          refine lv_aload_n hx hb dX12_ways_148 rfl (lv_at hl 4 rfl) ?_
                          refine va_get (D := D) (ci := 11) (v := .ref (ad 77)) (C := RX12) (T := TX12) (N := 85) hx hb hts inX12 hown hK hP 0 mwd_o0 rfl 77 (by decide) fl173 (fun _ h9 => h9) rfl dX12_ways_149 ?_
                          refine lv_iload_n hx hb dX12_ways_152 rfl (lv_at hl 1 rfl) ?_
                          refine lv_ldc2 (v := 1000000000) hx hb hown (hts (.constantLong RX12 398 1000000000) (List.mem_of_getElem? (i := 7) rfl)) dX12_ways_153 ?_
                          refine va_last hx hb hK hP hD hS 53 3 mwd_a53 rfl (x_in (by omega) (by omega)) dX12_ways_156 (fun H locs hP hD hS => ?_)
                          obtain ⟨f_102, ef_102⟩ : ∃ z9 : Nat → Int64, z9 = (vp_updL f_98 (Int32.toNatClampNeg j) 1000000000) := ⟨_, rfl⟩
                          have hP : va_P D vwCl (mwd y ad zw (tJ (tJ (tJ (tJ σ 77 f) 77 f_63) 77 f_98) 77 f_102)) H := by rw [ef_102]; exact x_trP hP mwd_s53
                          have hD : va_D A (mwd y ad zw (tJ (tJ (tJ (tJ σ 77 f) 77 f_63) 77 f_98) 77 f_102)) := by rw [ef_102]; exact x_trD hD mwd_s53
                          obtain ⟨i_103, ei_103⟩ : ∃ z9 : Int32, z9 = j + 1 := ⟨_, rfl⟩
                          have vi_103 : i_103.toInt = j.toInt + 1 := by have h9 := x_add ei_103 (by omega) (by omega); omega
                          refine lv_iinc (v := i_103) (lv' := [(3, .int i_103), (4, .int 0), (2, .int i), (1, .int k), (0, .ref (ad 1))]) hx hb dX12_ways_157 hl (k := 1) rfl (by rw [ei_103]; rfl) (by decide) rfl (fun ls hl => ?_)
                          refine lv_goto (tgt := 20) hx hb dX12_ways_160 (by decide) ?_
                          have hP : va_P D vwCl (mwd y ad zw (tJ σ 77 f_102)) H := hP
                          have hD : va_D A (mwd y ad zw (tJ σ 77 f_102)) := hD
                          exact ih_loop i_103 f_102 H locs ls (by omega) (by omega) (by omega) hP hD hS (lv_sub hl [0, 2, 3, 4] rfl)
                      · exact absurd (by decide) c_94
                    · have kc_91 : i_90.toInt = 7 := by have h9 := c_91; simp only [ge_iff_le, gt_iff_lt, x_lt, x_le, x_eq, ne_eq, Int32.not_lt, Int32.not_le] at h9; simp only [Int32.reduceToInt] at h9; omega
                      refine lv_iconst (v := 1) hx hb dX12_ways_90 (by decide) ?_
                      refine lv_goto (tgt := 95) hx hb dX12_ways_91 (by decide) ?_
                      refine lv_istore (lv' := [(4, .int 1), (3, .int j), (2, .int i), (1, .int k), (0, .ref (ad 1))]) hx hb dX12_ways_95 hl (by decide) rfl (fun ls hl => ?_)
                      refine lv_aload_n hx hb dX12_ways_97 rfl (lv_at hl 4 rfl) ?_
                      refine va_get (D := D) (ci := 11) (v := .ref (ad 77)) (C := RX12) (T := TX12) (N := 85) hx hb hts inX12 hown hK hP 0 mwd_o0 rfl 77 (by decide) fl173 (fun _ h9 => h9) rfl dX12_ways_98 ?_
                      refine lv_iload_n hx hb dX12_ways_101 rfl (lv_at hl 1 rfl) ?_
                      refine lv_aload_n hx hb dX12_ways_102 rfl (lv_at hl 4 rfl) ?_
                      refine va_get (D := D) (ci := 11) (v := .ref (ad 77)) (C := RX12) (T := TX12) (N := 85) hx hb hts inX12 hown hK hP 0 mwd_o0 rfl 77 (by decide) fl173 (fun _ h9 => h9) rfl dX12_ways_103 ?_
                      refine lv_aload_n hx hb dX12_ways_106 rfl (lv_at hl 4 rfl) ?_
                      refine va_get (D := D) (ci := 11) (v := .ref (ad 60)) (C := RX12) (T := TX12) (N := 85) hx hb hts inX12 hown hK hP 0 mwd_o0 rfl 60 (by decide) fl133 (fun _ h9 => h9) rfl dX12_ways_107 ?_
                      refine lv_iload_n hx hb dX12_ways_110 rfl (lv_at hl 1 rfl) ?_
                      refine va_iald hx hb hK hP 40 2 mwd_a40 rfl (x_in (by omega) (by omega)) dX12_ways_111 ?_
                      refine lv_topi (fun i_104 ei_104 => ?_)
                      have ei_104 : i_104 = (σ.2.2.1 60) (Int32.toNatClampNeg j) := ei_104
                      have gi_104 := opc_1 hop (x_ne0 ei_64 kc_65) ei_104
                      refine va_lald hx hb hK hP 53 3 mwd_a53 rfl (x_in (by omega) (by omega)) dX12_ways_112 ?_
                      refine lv_topl (fun j_105 ej_105 => ?_)
                      have ej_105 : j_105 = f_63 (Int32.toNatClampNeg i_104) := ej_105
                      refine lv_iload hx hb dX12_ways_113 (lv_at hl 0 rfl) ?_
                      refine lv_if_eq (tgt := 122) hx hb dX12_ways_115 (by decide) (fun c_106 => ?_) (fun c_106 => ?_)
                      · exact absurd c_106 (by decide)
                      · refine lv_lconst (v := 0) hx hb dX12_ways_118 (by decide) ?_
                        refine lv_goto (tgt := 133) hx hb dX12_ways_119 (by decide) ?_
                        refine lv_ladd hx hb dX12_ways_133 ?_
                        refine lv_topl (fun j_107 ej_107 => ?_)
                        refine va_last hx hb hK hP hD hS 53 3 mwd_a53 rfl (x_in (by omega) (by omega)) dX12_ways_134 (fun H locs hP hD hS => ?_)
                        obtain ⟨f_108, ef_108⟩ : ∃ z9 : Nat → Int64, z9 = (vp_updL f_63 (Int32.toNatClampNeg j) j_107) := ⟨_, rfl⟩
                        have hP : va_P D vwCl (mwd y ad zw (tJ (tJ (tJ σ 77 f) 77 f_63) 77 f_108)) H := by rw [ef_108]; exact x_trP hP mwd_s53
                        have hD : va_D A (mwd y ad zw (tJ (tJ (tJ σ 77 f) 77 f_63) 77 f_108)) := by rw [ef_108]; exact x_trD hD mwd_s53
                        refine lv_aload_n hx hb dX12_ways_135 rfl (lv_at hl 4 rfl) ?_
                        refine va_get (D := D) (ci := 11) (v := .ref (ad 77)) (C := RX12) (T := TX12) (N := 85) hx hb hts inX12 hown hK hP 0 mwd_o0 rfl 77 (by decide) fl173 (fun _ h9 => h9) rfl dX12_ways_136 ?_
                        refine lv_iload_n hx hb dX12_ways_139 rfl (lv_at hl 1 rfl) ?_
                        refine va_lald hx hb hK hP 53 3 mwd_a53 rfl (x_in (by omega) (by omega)) dX12_ways_140 ?_
                        refine lv_topl (fun j_109 ej_109 => ?_)
                        have ej_109 : j_109 = f_108 (Int32.toNatClampNeg j) := ej_109
                        refine lv_ldc2 (v := 1000000000) hx hb hown (hts (.constantLong RX12 398 1000000000) (List.mem_of_getElem? (i := 7) rfl)) dX12_ways_141 ?_
                        refine W.lcmp hx hb dX12_ways_144 ?_
                        refine lv_if_le (tgt := 157) hx hb dX12_ways_145 (by decide) (fun c_110 => ?_) (fun c_110 => ?_)
                        · have kc_110 : j_109.toInt ≤ 1000000000 := by have h9 := x_tri j_109 (1000000000 : Int64); (try simp only [Int64.reduceToInt] at h9); rcases h9 with ⟨g1, g2⟩ | ⟨g1, g2⟩ | ⟨g1, g2⟩ <;> first | omega | (exfalso; rw [g1] at c_110; revert c_110; decide)
                          obtain ⟨i_111, ei_111⟩ : ∃ z9 : Int32, z9 = j + 1 := ⟨_, rfl⟩
                          have vi_111 : i_111.toInt = j.toInt + 1 := by have h9 := x_add ei_111 (by omega) (by omega); omega
                          refine lv_iinc (v := i_111) (lv' := [(3, .int i_111), (4, .int 1), (2, .int i), (1, .int k), (0, .ref (ad 1))]) hx hb dX12_ways_157 hl (k := 1) rfl (by rw [ei_111]; rfl) (by decide) rfl (fun ls hl => ?_)
                          refine lv_goto (tgt := 20) hx hb dX12_ways_160 (by decide) ?_
                          have hP : va_P D vwCl (mwd y ad zw (tJ σ 77 f_108)) H := hP
                          have hD : va_D A (mwd y ad zw (tJ σ 77 f_108)) := hD
                          exact ih_loop i_111 f_108 H locs ls (by omega) (by omega) (by omega) hP hD hS (lv_sub hl [0, 2, 3, 4] rfl)
                        · have kc_110 : j_109.toInt > 1000000000 := by have h9 := x_tri j_109 (1000000000 : Int64); (try simp only [Int64.reduceToInt] at h9); rcases h9 with ⟨g1, g2⟩ | ⟨g1, g2⟩ | ⟨g1, g2⟩ <;> first | omega | (exfalso; rw [g1] at c_110; revert c_110; decide)
                          refine lv_aload_n hx hb dX12_ways_148 rfl (lv_at hl 4 rfl) ?_
                          refine va_get (D := D) (ci := 11) (v := .ref (ad 77)) (C := RX12) (T := TX12) (N := 85) hx hb hts inX12 hown hK hP 0 mwd_o0 rfl 77 (by decide) fl173 (fun _ h9 => h9) rfl dX12_ways_149 ?_
                          refine lv_iload_n hx hb dX12_ways_152 rfl (lv_at hl 1 rfl) ?_
                          refine lv_ldc2 (v := 1000000000) hx hb hown (hts (.constantLong RX12 398 1000000000) (List.mem_of_getElem? (i := 7) rfl)) dX12_ways_153 ?_
                          refine va_last hx hb hK hP hD hS 53 3 mwd_a53 rfl (x_in (by omega) (by omega)) dX12_ways_156 (fun H locs hP hD hS => ?_)
                          obtain ⟨f_112, ef_112⟩ : ∃ z9 : Nat → Int64, z9 = (vp_updL f_108 (Int32.toNatClampNeg j) 1000000000) := ⟨_, rfl⟩
                          have hP : va_P D vwCl (mwd y ad zw (tJ (tJ (tJ (tJ σ 77 f) 77 f_63) 77 f_108) 77 f_112)) H := by rw [ef_112]; exact x_trP hP mwd_s53
                          have hD : va_D A (mwd y ad zw (tJ (tJ (tJ (tJ σ 77 f) 77 f_63) 77 f_108) 77 f_112)) := by rw [ef_112]; exact x_trD hD mwd_s53
                          obtain ⟨i_113, ei_113⟩ : ∃ z9 : Int32, z9 = j + 1 := ⟨_, rfl⟩
                          have vi_113 : i_113.toInt = j.toInt + 1 := by have h9 := x_add ei_113 (by omega) (by omega); omega
                          refine lv_iinc (v := i_113) (lv' := [(3, .int i_113), (4, .int 1), (2, .int i), (1, .int k), (0, .ref (ad 1))]) hx hb dX12_ways_157 hl (k := 1) rfl (by rw [ei_113]; rfl) (by decide) rfl (fun ls hl => ?_)
                          refine lv_goto (tgt := 20) hx hb dX12_ways_160 (by decide) ?_
                          have hP : va_P D vwCl (mwd y ad zw (tJ σ 77 f_112)) H := hP
                          have hD : va_D A (mwd y ad zw (tJ σ 77 f_112)) := hD
                          exact ih_loop i_113 f_112 H locs ls (by omega) (by omega) (by omega) hP hD hS (lv_sub hl [0, 2, 3, 4] rfl)
              · have kc_65 : i_64.toInt = 0 := by have h9 := c_65; simp only [ge_iff_le, gt_iff_lt, x_lt, x_le, x_eq, ne_eq, Int32.not_lt, Int32.not_le] at h9; simp only [Int32.reduceToInt] at h9; omega
                refine lv_goto (tgt := 157) hx hb dX12_ways_55 (by decide) ?_
                obtain ⟨i_114, ei_114⟩ : ∃ z9 : Int32, z9 = j + 1 := ⟨_, rfl⟩
                have vi_114 : i_114.toInt = j.toInt + 1 := by have h9 := x_add ei_114 (by omega) (by omega); omega
                refine lv_iinc (v := i_114) (lv' := [(3, .int i_114), (2, .int i), (1, .int k), (0, .ref (ad 1))]) hx hb dX12_ways_157 hl (k := 0) rfl (by rw [ei_114]; rfl) (by decide) rfl (fun ls hl => ?_)
                refine lv_goto (tgt := 20) hx hb dX12_ways_160 (by decide) ?_
                have hP : va_P D vwCl (mwd y ad zw (tJ σ 77 f_63)) H := hP
                have hD : va_D A (mwd y ad zw (tJ σ 77 f_63)) := hD
                exact ih_loop i_114 f_63 H locs ls (by omega) (by omega) (by omega) hP hD hS (lv_sub hl [0, 1, 2, 3] rfl)
      exact loop 1761 0 (σ.2.2.2 77) H locs ls (by decide) (by decide) (by omega) hP hD hS (lv_sub hl [0, 3, 2, 1] rfl)
    · have kc_4 : r_3.toInt = 0 := by have h9 := c_4; simp only [ge_iff_le, gt_iff_lt, x_lt, x_le, x_eq, ne_eq, Int32.not_lt, Int32.not_le] at h9; simp only [Int32.reduceToInt] at h9; omega
      refine lv_iconst (v := (-1)) hx hb dX12_ways_16 (by decide) ?_
      have hP : va_P D vwCl (mwd y ad zw (tJ σ 77 (σ.2.2.2 77))) H := hP
      have hD : va_D A (mwd y ad zw (tJ σ 77 (σ.2.2.2 77))) := hD
      exact x_iretW (v := (-1)) (u := (σ.2.2.2 77)) hx hb hr hQ trivial hP hD hK hS dX12_ways_17 hlocks

