theorem dX11_feed_0 : decode cX11_feed 0 = .ok (.aload_n 0, 1) := by decide +kernel
theorem dX11_feed_1 : decode cX11_feed 1 = .ok (.getfield 10, 3) := by decide +kernel
theorem dX11_feed_4 : decode cX11_feed 4 = .ok (.bipush 20, 2) := by decide +kernel
theorem dX11_feed_6 : decode cX11_feed 6 = .ok (.invokevirtual 78, 3) := by decide +kernel
theorem dX11_feed_9 : decode cX11_feed 9 = .ok (.ifCond .ne 5, 3) := by decide +kernel
theorem dX11_feed_12 : decode cX11_feed 12 = .ok (.iconst (-1), 1) := by decide +kernel
theorem dX11_feed_13 : decode cX11_feed 13 = .ok (.ireturn, 1) := by decide +kernel
theorem dX11_feed_14 : decode cX11_feed 14 = .ok (.aload_n 0, 1) := by decide +kernel
theorem dX11_feed_15 : decode cX11_feed 15 = .ok (.getfield 10, 3) := by decide +kernel
theorem dX11_feed_18 : decode cX11_feed 18 = .ok (.iload_n 1, 1) := by decide +kernel
theorem dX11_feed_19 : decode cX11_feed 19 = .ok (.invokevirtual 82, 3) := by decide +kernel
theorem dX11_feed_22 : decode cX11_feed 22 = .ok (.aload_n 0, 1) := by decide +kernel
theorem dX11_feed_23 : decode cX11_feed 23 = .ok (.getfield 10, 3) := by decide +kernel
theorem dX11_feed_26 : decode cX11_feed 26 = .ok (.iload_n 2, 1) := by decide +kernel
theorem dX11_feed_27 : decode cX11_feed 27 = .ok (.invokevirtual 82, 3) := by decide +kernel
theorem dX11_feed_30 : decode cX11_feed 30 = .ok (.aload_n 0, 1) := by decide +kernel
theorem dX11_feed_31 : decode cX11_feed 31 = .ok (.getfield 10, 3) := by decide +kernel
theorem dX11_feed_34 : decode cX11_feed 34 = .ok (.iload_n 3, 1) := by decide +kernel
theorem dX11_feed_35 : decode cX11_feed 35 = .ok (.invokevirtual 82, 3) := by decide +kernel
theorem dX11_feed_38 : decode cX11_feed 38 = .ok (.aload_n 0, 1) := by decide +kernel
theorem dX11_feed_39 : decode cX11_feed 39 = .ok (.getfield 10, 3) := by decide +kernel
theorem dX11_feed_42 : decode cX11_feed 42 = .ok (.iload 4, 2) := by decide +kernel
theorem dX11_feed_44 : decode cX11_feed 44 = .ok (.invokevirtual 82, 3) := by decide +kernel
theorem dX11_feed_47 : decode cX11_feed 47 = .ok (.aload_n 0, 1) := by decide +kernel
theorem dX11_feed_48 : decode cX11_feed 48 = .ok (.getfield 10, 3) := by decide +kernel
theorem dX11_feed_51 : decode cX11_feed 51 = .ok (.iload 5, 2) := by decide +kernel
theorem dX11_feed_53 : decode cX11_feed 53 = .ok (.invokevirtual 82, 3) := by decide +kernel
theorem dX11_feed_56 : decode cX11_feed 56 = .ok (.aload_n 0, 1) := by decide +kernel
theorem dX11_feed_57 : decode cX11_feed 57 = .ok (.getfield 10, 3) := by decide +kernel
theorem dX11_feed_60 : decode cX11_feed 60 = .ok (.invokevirtual 86, 3) := by decide +kernel
theorem dX11_feed_63 : decode cX11_feed 63 = .ok (.ireturn, 1) := by decide +kernel
theorem dX11_end_0 : decode cX11_end 0 = .ok (.aload_n 0, 1) := by decide +kernel
theorem dX11_end_1 : decode cX11_end 1 = .ok (.getfield 10, 3) := by decide +kernel
theorem dX11_end_4 : decode cX11_end 4 = .ok (.iload_n 1, 1) := by decide +kernel
theorem dX11_end_5 : decode cX11_end 5 = .ok (.invokevirtual 90, 3) := by decide +kernel
theorem dX11_end_8 : decode cX11_end 8 = .ok (.ireturn, 1) := by decide +kernel
theorem dX11_program_0 : decode cX11_program 0 = .ok (.aload_n 0, 1) := by decide +kernel
theorem dX11_program_1 : decode cX11_program 1 = .ok (.getfield 19, 3) := by decide +kernel
theorem dX11_program_4 : decode cX11_program 4 = .ok (.aload_n 0, 1) := by decide +kernel
theorem dX11_program_5 : decode cX11_program 5 = .ok (.getfield 10, 3) := by decide +kernel
theorem dX11_program_8 : decode cX11_program 8 = .ok (.aload_n 0, 1) := by decide +kernel
theorem dX11_program_9 : decode cX11_program 9 = .ok (.getfield 75, 3) := by decide +kernel
theorem dX11_program_12 : decode cX11_program 12 = .ok (.invokevirtual 93, 3) := by decide +kernel
theorem dX11_program_15 : decode cX11_program 15 = .ok (.istore_n 1, 1) := by decide +kernel
theorem dX11_program_16 : decode cX11_program 16 = .ok (.aload_n 0, 1) := by decide +kernel
theorem dX11_program_17 : decode cX11_program 17 = .ok (.getfield 10, 3) := by decide +kernel
theorem dX11_program_20 : decode cX11_program 20 = .ok (.iconst 0, 1) := by decide +kernel
theorem dX11_program_21 : decode cX11_program 21 = .ok (.invokevirtual 90, 3) := by decide +kernel
theorem dX11_program_24 : decode cX11_program 24 = .ok (.pop, 1) := by decide +kernel
theorem dX11_program_25 : decode cX11_program 25 = .ok (.iload_n 1, 1) := by decide +kernel
theorem dX11_program_26 : decode cX11_program 26 = .ok (.ifCond .ne 5, 3) := by decide +kernel
theorem dX11_program_29 : decode cX11_program 29 = .ok (.iconst (-1), 1) := by decide +kernel
theorem dX11_program_30 : decode cX11_program 30 = .ok (.ireturn, 1) := by decide +kernel
theorem dX11_program_31 : decode cX11_program 31 = .ok (.aload_n 0, 1) := by decide +kernel
theorem dX11_program_32 : decode cX11_program 32 = .ok (.getfield 71, 3) := by decide +kernel
theorem dX11_program_35 : decode cX11_program 35 = .ok (.astore_n 2, 1) := by decide +kernel
theorem dX11_program_36 : decode cX11_program 36 = .ok (.aload_n 0, 1) := by decide +kernel
theorem dX11_program_37 : decode cX11_program 37 = .ok (.aload_n 0, 1) := by decide +kernel
theorem dX11_program_38 : decode cX11_program 38 = .ok (.getfield 75, 3) := by decide +kernel
theorem dX11_program_41 : decode cX11_program 41 = .ok (.putfield 71, 3) := by decide +kernel
theorem dX11_program_44 : decode cX11_program 44 = .ok (.aload_n 0, 1) := by decide +kernel
theorem dX11_program_45 : decode cX11_program 45 = .ok (.aload_n 2, 1) := by decide +kernel
theorem dX11_program_46 : decode cX11_program 46 = .ok (.putfield 75, 3) := by decide +kernel
theorem dX11_program_49 : decode cX11_program 49 = .ok (.aload_n 0, 1) := by decide +kernel
theorem dX11_program_50 : decode cX11_program 50 = .ok (.getfield 26, 3) := by decide +kernel
theorem dX11_program_53 : decode cX11_program 53 = .ok (.aload_n 0, 1) := by decide +kernel
theorem dX11_program_54 : decode cX11_program 54 = .ok (.getfield 71, 3) := by decide +kernel
theorem dX11_program_57 : decode cX11_program 57 = .ok (.getfield 97, 3) := by decide +kernel
theorem dX11_program_60 : decode cX11_program 60 = .ok (.invokevirtual 100, 3) := by decide +kernel
theorem dX11_program_63 : decode cX11_program 63 = .ok (.aload_n 0, 1) := by decide +kernel
theorem dX11_program_64 : decode cX11_program 64 = .ok (.getfield 61, 3) := by decide +kernel
theorem dX11_program_67 : decode cX11_program 67 = .ok (.invokevirtual 103, 3) := by decide +kernel
theorem dX11_program_70 : decode cX11_program 70 = .ok (.aload_n 0, 1) := by decide +kernel
theorem dX11_program_71 : decode cX11_program 71 = .ok (.getfield 47, 3) := by decide +kernel
theorem dX11_program_74 : decode cX11_program 74 = .ok (.invokevirtual 106, 3) := by decide +kernel
theorem dX11_program_77 : decode cX11_program 77 = .ok (.aload_n 0, 1) := by decide +kernel
theorem dX11_program_78 : decode cX11_program 78 = .ok (.getfield 71, 3) := by decide +kernel
theorem dX11_program_81 : decode cX11_program 81 = .ok (.getfield 107, 3) := by decide +kernel
theorem dX11_program_84 : decode cX11_program 84 = .ok (.ireturn, 1) := by decide +kernel
theorem dX11_has_0 : decode cX11_has 0 = .ok (.iload_n 1, 1) := by decide +kernel
theorem dX11_has_1 : decode cX11_has 1 = .ok (.tableswitch 75 0 4 #[35, 43, 51, 59, 67], 35) := by decide +kernel
theorem dX11_has_36 : decode cX11_has 36 = .ok (.aload_n 0, 1) := by decide +kernel
theorem dX11_has_37 : decode cX11_has 37 = .ok (.getfield 71, 3) := by decide +kernel
theorem dX11_has_40 : decode cX11_has 40 = .ok (.getfield 97, 3) := by decide +kernel
theorem dX11_has_43 : decode cX11_has 43 = .ok (.ireturn, 1) := by decide +kernel
theorem dX11_has_44 : decode cX11_has 44 = .ok (.aload_n 0, 1) := by decide +kernel
theorem dX11_has_45 : decode cX11_has 45 = .ok (.getfield 71, 3) := by decide +kernel
theorem dX11_has_48 : decode cX11_has 48 = .ok (.getfield 116, 3) := by decide +kernel
theorem dX11_has_51 : decode cX11_has 51 = .ok (.ireturn, 1) := by decide +kernel
theorem dX11_has_52 : decode cX11_has 52 = .ok (.aload_n 0, 1) := by decide +kernel
theorem dX11_has_53 : decode cX11_has 53 = .ok (.getfield 71, 3) := by decide +kernel
theorem dX11_has_56 : decode cX11_has 56 = .ok (.getfield 119, 3) := by decide +kernel
theorem dX11_has_59 : decode cX11_has 59 = .ok (.ireturn, 1) := by decide +kernel
theorem dX11_has_60 : decode cX11_has 60 = .ok (.aload_n 0, 1) := by decide +kernel
theorem dX11_has_61 : decode cX11_has 61 = .ok (.getfield 71, 3) := by decide +kernel
theorem dX11_has_64 : decode cX11_has 64 = .ok (.getfield 107, 3) := by decide +kernel
theorem dX11_has_67 : decode cX11_has 67 = .ok (.ireturn, 1) := by decide +kernel
theorem dX11_has_68 : decode cX11_has 68 = .ok (.aload_n 0, 1) := by decide +kernel
theorem dX11_has_69 : decode cX11_has 69 = .ok (.getfield 71, 3) := by decide +kernel
theorem dX11_has_72 : decode cX11_has 72 = .ok (.getfield 122, 3) := by decide +kernel
theorem dX11_has_75 : decode cX11_has 75 = .ok (.ireturn, 1) := by decide +kernel
theorem dX11_has_76 : decode cX11_has 76 = .ok (.iconst (-1), 1) := by decide +kernel
theorem dX11_has_77 : decode cX11_has 77 = .ok (.ireturn, 1) := by decide +kernel
theorem dX11_put_0 : decode cX11_put 0 = .ok (.aload_n 0, 1) := by decide +kernel
theorem dX11_put_1 : decode cX11_put 1 = .ok (.getfield 26, 3) := by decide +kernel
theorem dX11_put_4 : decode cX11_put 4 = .ok (.iload_n 1, 1) := by decide +kernel
theorem dX11_put_5 : decode cX11_put 5 = .ok (.invokevirtual 125, 3) := by decide +kernel
theorem dX11_put_8 : decode cX11_put 8 = .ok (.ifCond .eq 11, 3) := by decide +kernel
theorem dX11_put_11 : decode cX11_put 11 = .ok (.iload_n 2, 1) := by decide +kernel
theorem dX11_put_12 : decode cX11_put 12 = .ok (.iload_n 3, 1) := by decide +kernel
theorem dX11_put_13 : decode cX11_put 13 = .ok (.invokestatic 128, 3) := by decide +kernel
theorem dX11_put_16 : decode cX11_put 16 = .ok (.ifCond .ne 5, 3) := by decide +kernel
theorem dX11_put_19 : decode cX11_put 19 = .ok (.iconst 0, 1) := by decide +kernel
theorem dX11_put_20 : decode cX11_put 20 = .ok (.ireturn, 1) := by decide +kernel
theorem dX11_put_21 : decode cX11_put 21 = .ok (.aload_n 0, 1) := by decide +kernel
theorem dX11_put_22 : decode cX11_put 22 = .ok (.getfield 26, 3) := by decide +kernel
theorem dX11_put_25 : decode cX11_put 25 = .ok (.iload_n 1, 1) := by decide +kernel
theorem dX11_put_26 : decode cX11_put 26 = .ok (.iload_n 2, 1) := by decide +kernel
theorem dX11_put_27 : decode cX11_put 27 = .ok (.i2l, 1) := by decide +kernel
theorem dX11_put_28 : decode cX11_put 28 = .ok (.iload_n 3, 1) := by decide +kernel
theorem dX11_put_29 : decode cX11_put 29 = .ok (.i2l, 1) := by decide +kernel
theorem dX11_put_30 : decode cX11_put 30 = .ok (.invokestatic 134, 3) := by decide +kernel
theorem dX11_put_33 : decode cX11_put 33 = .ok (.invokevirtual 138, 3) := by decide +kernel
theorem dX11_put_36 : decode cX11_put 36 = .ok (.iconst 1, 1) := by decide +kernel
theorem dX11_put_37 : decode cX11_put 37 = .ok (.ireturn, 1) := by decide +kernel
theorem dX11_undo_0 : decode cX11_undo 0 = .ok (.aload_n 0, 1) := by decide +kernel
theorem dX11_undo_1 : decode cX11_undo 1 = .ok (.getfield 26, 3) := by decide +kernel
theorem dX11_undo_4 : decode cX11_undo 4 = .ok (.invokevirtual 142, 3) := by decide +kernel
theorem dX11_undo_7 : decode cX11_undo 7 = .ok (.ireturn, 1) := by decide +kernel
theorem dX11_redo_0 : decode cX11_redo 0 = .ok (.aload_n 0, 1) := by decide +kernel
theorem dX11_redo_1 : decode cX11_redo 1 = .ok (.getfield 26, 3) := by decide +kernel
theorem dX11_redo_4 : decode cX11_redo 4 = .ok (.invokevirtual 146, 3) := by decide +kernel
theorem dX11_redo_7 : decode cX11_redo 7 = .ok (.ireturn, 1) := by decide +kernel
theorem dX11_answer_0 : decode cX11_answer 0 = .ok (.lload_n 0, 1) := by decide +kernel
theorem dX11_answer_1 : decode cX11_answer 1 = .ok (.lconst 0, 1) := by decide +kernel
theorem dX11_answer_2 : decode cX11_answer 2 = .ok (.lcmp, 1) := by decide +kernel
theorem dX11_answer_3 : decode cX11_answer 3 = .ok (.ifCond .ne 7, 3) := by decide +kernel
theorem dX11_answer_6 : decode cX11_answer 6 = .ok (.ldc2_w 192, 3) := by decide +kernel
theorem dX11_answer_9 : decode cX11_answer 9 = .ok (.lreturn, 1) := by decide +kernel
theorem dX11_answer_10 : decode cX11_answer 10 = .ok (.iload_n 2, 1) := by decide +kernel
theorem dX11_answer_11 : decode cX11_answer 11 = .ok (.ifCond .eq 10, 3) := by decide +kernel
theorem dX11_answer_14 : decode cX11_answer 14 = .ok (.lload_n 0, 1) := by decide +kernel
theorem dX11_answer_15 : decode cX11_answer 15 = .ok (.invokestatic 251, 3) := by decide +kernel
theorem dX11_answer_18 : decode cX11_answer 18 = .ok (.goto 7, 3) := by decide +kernel
theorem dX11_answer_21 : decode cX11_answer 21 = .ok (.lload_n 0, 1) := by decide +kernel
theorem dX11_answer_22 : decode cX11_answer 22 = .ok (.invokestatic 255, 3) := by decide +kernel
theorem dX11_answer_25 : decode cX11_answer 25 = .ok (.lreturn, 1) := by decide +kernel
theorem dX11_input_0 : decode cX11_input 0 = .ok (.aload_n 0, 1) := by decide +kernel
theorem dX11_input_1 : decode cX11_input 1 = .ok (.getfield 26, 3) := by decide +kernel
theorem dX11_input_4 : decode cX11_input 4 = .ok (.iload_n 1, 1) := by decide +kernel
theorem dX11_input_5 : decode cX11_input 5 = .ok (.invokevirtual 149, 3) := by decide +kernel
theorem dX11_input_8 : decode cX11_input 8 = .ok (.iload_n 2, 1) := by decide +kernel
theorem dX11_input_9 : decode cX11_input 9 = .ok (.invokestatic 153, 3) := by decide +kernel
theorem dX11_input_12 : decode cX11_input 12 = .ok (.lreturn, 1) := by decide +kernel
theorem dX11_run_0 : decode cX11_run 0 = .ok (.aload_n 0, 1) := by decide +kernel
theorem dX11_run_1 : decode cX11_run 1 = .ok (.getfield 61, 3) := by decide +kernel
theorem dX11_run_4 : decode cX11_run 4 = .ok (.aload_n 0, 1) := by decide +kernel
theorem dX11_run_5 : decode cX11_run 5 = .ok (.getfield 71, 3) := by decide +kernel
theorem dX11_run_8 : decode cX11_run 8 = .ok (.aload_n 0, 1) := by decide +kernel
theorem dX11_run_9 : decode cX11_run 9 = .ok (.getfield 26, 3) := by decide +kernel
theorem dX11_run_12 : decode cX11_run 12 = .ok (.getfield 157, 3) := by decide +kernel
theorem dX11_run_15 : decode cX11_run 15 = .ok (.invokevirtual 161, 3) := by decide +kernel
theorem dX11_run_18 : decode cX11_run 18 = .ok (.aload_n 0, 1) := by decide +kernel
theorem dX11_run_19 : decode cX11_run 19 = .ok (.getfield 33, 3) := by decide +kernel
theorem dX11_run_22 : decode cX11_run 22 = .ok (.aload_n 0, 1) := by decide +kernel
theorem dX11_run_23 : decode cX11_run 23 = .ok (.getfield 71, 3) := by decide +kernel
theorem dX11_run_26 : decode cX11_run 26 = .ok (.aload_n 0, 1) := by decide +kernel
theorem dX11_run_27 : decode cX11_run 27 = .ok (.getfield 61, 3) := by decide +kernel
theorem dX11_run_30 : decode cX11_run 30 = .ok (.invokevirtual 164, 3) := by decide +kernel
theorem dX11_run_33 : decode cX11_run 33 = .ok (.ireturn, 1) := by decide +kernel
theorem dX11_ran_0 : decode cX11_ran 0 = .ok (.aload_n 0, 1) := by decide +kernel
theorem dX11_ran_1 : decode cX11_ran 1 = .ok (.getfield 61, 3) := by decide +kernel
theorem dX11_ran_4 : decode cX11_ran 4 = .ok (.getfield 168, 3) := by decide +kernel
theorem dX11_ran_7 : decode cX11_ran 7 = .ok (.iconst (-1), 1) := by decide +kernel
theorem dX11_ran_8 : decode cX11_ran 8 = .ok (.if_icmp .ne 5, 3) := by decide +kernel
theorem dX11_ran_11 : decode cX11_ran 11 = .ok (.iconst (-1), 1) := by decide +kernel
theorem dX11_ran_12 : decode cX11_ran 12 = .ok (.ireturn, 1) := by decide +kernel
theorem dX11_ran_13 : decode cX11_ran 13 = .ok (.iload_n 1, 1) := by decide +kernel
theorem dX11_ran_14 : decode cX11_ran 14 = .ok (.tableswitch 62 0 3 #[30, 38, 46, 54], 30) := by decide +kernel
theorem dX11_ran_44 : decode cX11_ran 44 = .ok (.aload_n 0, 1) := by decide +kernel
theorem dX11_ran_45 : decode cX11_ran 45 = .ok (.getfield 61, 3) := by decide +kernel
theorem dX11_ran_48 : decode cX11_ran 48 = .ok (.getfield 171, 3) := by decide +kernel
theorem dX11_ran_51 : decode cX11_ran 51 = .ok (.ireturn, 1) := by decide +kernel
theorem dX11_ran_52 : decode cX11_ran 52 = .ok (.aload_n 0, 1) := by decide +kernel
theorem dX11_ran_53 : decode cX11_ran 53 = .ok (.getfield 61, 3) := by decide +kernel
theorem dX11_ran_56 : decode cX11_ran 56 = .ok (.getfield 174, 3) := by decide +kernel
theorem dX11_ran_59 : decode cX11_ran 59 = .ok (.ireturn, 1) := by decide +kernel
theorem dX11_ran_60 : decode cX11_ran 60 = .ok (.aload_n 0, 1) := by decide +kernel
theorem dX11_ran_61 : decode cX11_ran 61 = .ok (.getfield 61, 3) := by decide +kernel
theorem dX11_ran_64 : decode cX11_ran 64 = .ok (.getfield 176, 3) := by decide +kernel
theorem dX11_ran_67 : decode cX11_ran 67 = .ok (.ireturn, 1) := by decide +kernel
theorem dX11_ran_68 : decode cX11_ran 68 = .ok (.aload_n 0, 1) := by decide +kernel
theorem dX11_ran_69 : decode cX11_ran 69 = .ok (.getfield 61, 3) := by decide +kernel
theorem dX11_ran_72 : decode cX11_ran 72 = .ok (.getfield 179, 3) := by decide +kernel
theorem dX11_ran_75 : decode cX11_ran 75 = .ok (.ireturn, 1) := by decide +kernel
theorem dX11_ran_76 : decode cX11_ran 76 = .ok (.iconst (-1), 1) := by decide +kernel
theorem dX11_ran_77 : decode cX11_ran 77 = .ok (.ireturn, 1) := by decide +kernel
theorem dX11_result_0 : decode cX11_result 0 = .ok (.aload_n 0, 1) := by decide +kernel
theorem dX11_result_1 : decode cX11_result 1 = .ok (.getfield 61, 3) := by decide +kernel
theorem dX11_result_4 : decode cX11_result 4 = .ok (.iload_n 1, 1) := by decide +kernel
theorem dX11_result_5 : decode cX11_result 5 = .ok (.invokevirtual 182, 3) := by decide +kernel
theorem dX11_result_8 : decode cX11_result 8 = .ok (.iload_n 2, 1) := by decide +kernel
theorem dX11_result_9 : decode cX11_result 9 = .ok (.invokestatic 153, 3) := by decide +kernel
theorem dX11_result_12 : decode cX11_result 12 = .ok (.lreturn, 1) := by decide +kernel
theorem dX11_near_0 : decode cX11_near 0 = .ok (.aload_n 0, 1) := by decide +kernel
theorem dX11_near_1 : decode cX11_near 1 = .ok (.getfield 61, 3) := by decide +kernel
theorem dX11_near_4 : decode cX11_near 4 = .ok (.getfield 185, 3) := by decide +kernel
theorem dX11_near_7 : decode cX11_near 7 = .ok (.iload_n 1, 1) := by decide +kernel
theorem dX11_near_8 : decode cX11_near 8 = .ok (.invokestatic 153, 3) := by decide +kernel
theorem dX11_near_11 : decode cX11_near 11 = .ok (.lreturn, 1) := by decide +kernel
theorem dX11_forward_0 : decode cX11_forward 0 = .ok (.aload_n 0, 1) := by decide +kernel
theorem dX11_forward_1 : decode cX11_forward 1 = .ok (.getfield 61, 3) := by decide +kernel
theorem dX11_forward_4 : decode cX11_forward 4 = .ok (.iload_n 1, 1) := by decide +kernel
theorem dX11_forward_5 : decode cX11_forward 5 = .ok (.iload_n 2, 1) := by decide +kernel
theorem dX11_forward_6 : decode cX11_forward 6 = .ok (.invokevirtual 189, 3) := by decide +kernel
theorem dX11_forward_9 : decode cX11_forward 9 = .ok (.ifCond .ne 7, 3) := by decide +kernel
theorem dX11_forward_12 : decode cX11_forward 12 = .ok (.ldc2_w 192, 3) := by decide +kernel
theorem dX11_forward_15 : decode cX11_forward 15 = .ok (.lreturn, 1) := by decide +kernel
theorem dX11_forward_16 : decode cX11_forward 16 = .ok (.aload_n 0, 1) := by decide +kernel
theorem dX11_forward_17 : decode cX11_forward 17 = .ok (.getfield 40, 3) := by decide +kernel
theorem dX11_forward_20 : decode cX11_forward 20 = .ok (.aload_n 0, 1) := by decide +kernel
theorem dX11_forward_21 : decode cX11_forward 21 = .ok (.getfield 61, 3) := by decide +kernel
theorem dX11_forward_24 : decode cX11_forward 24 = .ok (.iload_n 1, 1) := by decide +kernel
theorem dX11_forward_25 : decode cX11_forward 25 = .ok (.iload_n 2, 1) := by decide +kernel
theorem dX11_forward_26 : decode cX11_forward 26 = .ok (.invokevirtual 194, 3) := by decide +kernel
theorem dX11_forward_29 : decode cX11_forward 29 = .ok (.iload_n 3, 1) := by decide +kernel
theorem dX11_forward_30 : decode cX11_forward 30 = .ok (.invokestatic 153, 3) := by decide +kernel
theorem dX11_forward_33 : decode cX11_forward 33 = .ok (.lreturn, 1) := by decide +kernel
theorem dX11_backward_0 : decode cX11_backward 0 = .ok (.aload_n 0, 1) := by decide +kernel
theorem dX11_backward_1 : decode cX11_backward 1 = .ok (.getfield 61, 3) := by decide +kernel
theorem dX11_backward_4 : decode cX11_backward 4 = .ok (.iload_n 1, 1) := by decide +kernel
theorem dX11_backward_5 : decode cX11_backward 5 = .ok (.iload_n 2, 1) := by decide +kernel
theorem dX11_backward_6 : decode cX11_backward 6 = .ok (.invokevirtual 189, 3) := by decide +kernel
theorem dX11_backward_9 : decode cX11_backward 9 = .ok (.ifCond .ne 7, 3) := by decide +kernel
theorem dX11_backward_12 : decode cX11_backward 12 = .ok (.ldc2_w 192, 3) := by decide +kernel
theorem dX11_backward_15 : decode cX11_backward 15 = .ok (.lreturn, 1) := by decide +kernel
theorem dX11_backward_16 : decode cX11_backward 16 = .ok (.aload_n 0, 1) := by decide +kernel
theorem dX11_backward_17 : decode cX11_backward 17 = .ok (.getfield 40, 3) := by decide +kernel
theorem dX11_backward_20 : decode cX11_backward 20 = .ok (.aload_n 0, 1) := by decide +kernel
theorem dX11_backward_21 : decode cX11_backward 21 = .ok (.getfield 61, 3) := by decide +kernel
theorem dX11_backward_24 : decode cX11_backward 24 = .ok (.iload_n 1, 1) := by decide +kernel
theorem dX11_backward_25 : decode cX11_backward 25 = .ok (.iload_n 2, 1) := by decide +kernel
theorem dX11_backward_26 : decode cX11_backward 26 = .ok (.invokevirtual 198, 3) := by decide +kernel
theorem dX11_backward_29 : decode cX11_backward 29 = .ok (.iload_n 3, 1) := by decide +kernel
theorem dX11_backward_30 : decode cX11_backward 30 = .ok (.invokestatic 153, 3) := by decide +kernel
theorem dX11_backward_33 : decode cX11_backward 33 = .ok (.lreturn, 1) := by decide +kernel
theorem dX11_twice_0 : decode cX11_twice 0 = .ok (.aload_n 0, 1) := by decide +kernel
theorem dX11_twice_1 : decode cX11_twice 1 = .ok (.getfield 61, 3) := by decide +kernel
theorem dX11_twice_4 : decode cX11_twice 4 = .ok (.iload_n 1, 1) := by decide +kernel
theorem dX11_twice_5 : decode cX11_twice 5 = .ok (.iload_n 2, 1) := by decide +kernel
theorem dX11_twice_6 : decode cX11_twice 6 = .ok (.invokevirtual 189, 3) := by decide +kernel
theorem dX11_twice_9 : decode cX11_twice 9 = .ok (.ifCond .eq 15, 3) := by decide +kernel
theorem dX11_twice_12 : decode cX11_twice 12 = .ok (.aload_n 0, 1) := by decide +kernel
theorem dX11_twice_13 : decode cX11_twice 13 = .ok (.getfield 61, 3) := by decide +kernel
theorem dX11_twice_16 : decode cX11_twice 16 = .ok (.iload_n 1, 1) := by decide +kernel
theorem dX11_twice_17 : decode cX11_twice 17 = .ok (.iload_n 3, 1) := by decide +kernel
theorem dX11_twice_18 : decode cX11_twice 18 = .ok (.invokevirtual 189, 3) := by decide +kernel
theorem dX11_twice_21 : decode cX11_twice 21 = .ok (.ifCond .ne 7, 3) := by decide +kernel
theorem dX11_twice_24 : decode cX11_twice 24 = .ok (.ldc2_w 192, 3) := by decide +kernel
theorem dX11_twice_27 : decode cX11_twice 27 = .ok (.lreturn, 1) := by decide +kernel
theorem dX11_twice_28 : decode cX11_twice 28 = .ok (.aload_n 0, 1) := by decide +kernel
theorem dX11_twice_29 : decode cX11_twice 29 = .ok (.getfield 40, 3) := by decide +kernel
theorem dX11_twice_32 : decode cX11_twice 32 = .ok (.aload_n 0, 1) := by decide +kernel
theorem dX11_twice_33 : decode cX11_twice 33 = .ok (.getfield 61, 3) := by decide +kernel
theorem dX11_twice_36 : decode cX11_twice 36 = .ok (.iload_n 1, 1) := by decide +kernel
theorem dX11_twice_37 : decode cX11_twice 37 = .ok (.iload_n 2, 1) := by decide +kernel
theorem dX11_twice_38 : decode cX11_twice 38 = .ok (.iload_n 3, 1) := by decide +kernel
theorem dX11_twice_39 : decode cX11_twice 39 = .ok (.invokevirtual 201, 3) := by decide +kernel
theorem dX11_twice_42 : decode cX11_twice 42 = .ok (.iload 4, 2) := by decide +kernel
theorem dX11_twice_44 : decode cX11_twice 44 = .ok (.invokestatic 153, 3) := by decide +kernel
theorem dX11_twice_47 : decode cX11_twice 47 = .ok (.lreturn, 1) := by decide +kernel
theorem dX11_difference_0 : decode cX11_difference 0 = .ok (.aload_n 0, 1) := by decide +kernel
theorem dX11_difference_1 : decode cX11_difference 1 = .ok (.getfield 61, 3) := by decide +kernel
theorem dX11_difference_4 : decode cX11_difference 4 = .ok (.iload_n 1, 1) := by decide +kernel
theorem dX11_difference_5 : decode cX11_difference 5 = .ok (.iload_n 2, 1) := by decide +kernel
theorem dX11_difference_6 : decode cX11_difference 6 = .ok (.invokevirtual 189, 3) := by decide +kernel
theorem dX11_difference_9 : decode cX11_difference 9 = .ok (.ifCond .eq 16, 3) := by decide +kernel
theorem dX11_difference_12 : decode cX11_difference 12 = .ok (.iload_n 3, 1) := by decide +kernel
theorem dX11_difference_13 : decode cX11_difference 13 = .ok (.ifCond .eq 12, 3) := by decide +kernel
theorem dX11_difference_16 : decode cX11_difference 16 = .ok (.iload_n 3, 1) := by decide +kernel
theorem dX11_difference_17 : decode cX11_difference 17 = .ok (.iload 4, 2) := by decide +kernel
theorem dX11_difference_19 : decode cX11_difference 19 = .ok (.invokestatic 128, 3) := by decide +kernel
theorem dX11_difference_22 : decode cX11_difference 22 = .ok (.ifCond .ne 7, 3) := by decide +kernel
theorem dX11_difference_25 : decode cX11_difference 25 = .ok (.ldc2_w 192, 3) := by decide +kernel
theorem dX11_difference_28 : decode cX11_difference 28 = .ok (.lreturn, 1) := by decide +kernel
theorem dX11_difference_29 : decode cX11_difference 29 = .ok (.iload_n 3, 1) := by decide +kernel
theorem dX11_difference_30 : decode cX11_difference 30 = .ok (.i2l, 1) := by decide +kernel
theorem dX11_difference_31 : decode cX11_difference 31 = .ok (.iload 4, 2) := by decide +kernel
theorem dX11_difference_33 : decode cX11_difference 33 = .ok (.i2l, 1) := by decide +kernel
theorem dX11_difference_34 : decode cX11_difference 34 = .ok (.invokestatic 134, 3) := by decide +kernel
theorem dX11_difference_37 : decode cX11_difference 37 = .ok (.lstore 6, 2) := by decide +kernel
theorem dX11_difference_39 : decode cX11_difference 39 = .ok (.aload_n 0, 1) := by decide +kernel
theorem dX11_difference_40 : decode cX11_difference 40 = .ok (.getfield 61, 3) := by decide +kernel
theorem dX11_difference_43 : decode cX11_difference 43 = .ok (.iload_n 2, 1) := by decide +kernel
theorem dX11_difference_44 : decode cX11_difference 44 = .ok (.invokevirtual 205, 3) := by decide +kernel
theorem dX11_difference_47 : decode cX11_difference 47 = .ok (.lload 6, 2) := by decide +kernel
theorem dX11_difference_49 : decode cX11_difference 49 = .ok (.invokestatic 208, 3) := by decide +kernel
theorem dX11_difference_52 : decode cX11_difference 52 = .ok (.lstore 8, 2) := by decide +kernel
theorem dX11_difference_54 : decode cX11_difference 54 = .ok (.lload 8, 2) := by decide +kernel
theorem dX11_difference_56 : decode cX11_difference 56 = .ok (.lconst 0, 1) := by decide +kernel
theorem dX11_difference_57 : decode cX11_difference 57 = .ok (.lcmp, 1) := by decide +kernel
theorem dX11_difference_58 : decode cX11_difference 58 = .ok (.ifCond .ne 7, 3) := by decide +kernel
theorem dX11_difference_61 : decode cX11_difference 61 = .ok (.ldc2_w 192, 3) := by decide +kernel
theorem dX11_difference_64 : decode cX11_difference 64 = .ok (.lreturn, 1) := by decide +kernel
theorem dX11_difference_65 : decode cX11_difference 65 = .ok (.aload_n 0, 1) := by decide +kernel
theorem dX11_difference_66 : decode cX11_difference 66 = .ok (.getfield 65, 3) := by decide +kernel
theorem dX11_difference_69 : decode cX11_difference 69 = .ok (.aload_n 0, 1) := by decide +kernel
theorem dX11_difference_70 : decode cX11_difference 70 = .ok (.getfield 71, 3) := by decide +kernel
theorem dX11_difference_73 : decode cX11_difference 73 = .ok (.aload_n 0, 1) := by decide +kernel
theorem dX11_difference_74 : decode cX11_difference 74 = .ok (.getfield 61, 3) := by decide +kernel
theorem dX11_difference_77 : decode cX11_difference 77 = .ok (.getfield 211, 3) := by decide +kernel
theorem dX11_difference_80 : decode cX11_difference 80 = .ok (.invokevirtual 161, 3) := by decide +kernel
theorem dX11_difference_83 : decode cX11_difference 83 = .ok (.aload_n 0, 1) := by decide +kernel
theorem dX11_difference_84 : decode cX11_difference 84 = .ok (.getfield 65, 3) := by decide +kernel
theorem dX11_difference_87 : decode cX11_difference 87 = .ok (.iload_n 2, 1) := by decide +kernel
theorem dX11_difference_88 : decode cX11_difference 88 = .ok (.lload 8, 2) := by decide +kernel
theorem dX11_difference_90 : decode cX11_difference 90 = .ok (.invokevirtual 212, 3) := by decide +kernel
theorem dX11_difference_93 : decode cX11_difference 93 = .ok (.aload_n 0, 1) := by decide +kernel
theorem dX11_difference_94 : decode cX11_difference 94 = .ok (.getfield 33, 3) := by decide +kernel
theorem dX11_difference_97 : decode cX11_difference 97 = .ok (.aload_n 0, 1) := by decide +kernel
theorem dX11_difference_98 : decode cX11_difference 98 = .ok (.getfield 71, 3) := by decide +kernel
theorem dX11_difference_101 : decode cX11_difference 101 = .ok (.aload_n 0, 1) := by decide +kernel
theorem dX11_difference_102 : decode cX11_difference 102 = .ok (.getfield 65, 3) := by decide +kernel
theorem dX11_difference_105 : decode cX11_difference 105 = .ok (.invokevirtual 164, 3) := by decide +kernel
theorem dX11_difference_108 : decode cX11_difference 108 = .ok (.pop, 1) := by decide +kernel
theorem dX11_difference_109 : decode cX11_difference 109 = .ok (.aload_n 0, 1) := by decide +kernel
theorem dX11_difference_110 : decode cX11_difference 110 = .ok (.getfield 65, 3) := by decide +kernel
theorem dX11_difference_113 : decode cX11_difference 113 = .ok (.getfield 168, 3) := by decide +kernel
theorem dX11_difference_116 : decode cX11_difference 116 = .ok (.ifCond .eq 7, 3) := by decide +kernel
theorem dX11_difference_119 : decode cX11_difference 119 = .ok (.ldc2_w 192, 3) := by decide +kernel
theorem dX11_difference_122 : decode cX11_difference 122 = .ok (.lreturn, 1) := by decide +kernel
theorem dX11_difference_123 : decode cX11_difference 123 = .ok (.aload_n 0, 1) := by decide +kernel
theorem dX11_difference_124 : decode cX11_difference 124 = .ok (.getfield 65, 3) := by decide +kernel
theorem dX11_difference_127 : decode cX11_difference 127 = .ok (.iload_n 1, 1) := by decide +kernel
theorem dX11_difference_128 : decode cX11_difference 128 = .ok (.invokevirtual 182, 3) := by decide +kernel
theorem dX11_difference_131 : decode cX11_difference 131 = .ok (.aload_n 0, 1) := by decide +kernel
theorem dX11_difference_132 : decode cX11_difference 132 = .ok (.getfield 61, 3) := by decide +kernel
theorem dX11_difference_135 : decode cX11_difference 135 = .ok (.iload_n 1, 1) := by decide +kernel
theorem dX11_difference_136 : decode cX11_difference 136 = .ok (.invokevirtual 182, 3) := by decide +kernel
theorem dX11_difference_139 : decode cX11_difference 139 = .ok (.invokestatic 215, 3) := by decide +kernel
theorem dX11_difference_142 : decode cX11_difference 142 = .ok (.lstore 10, 2) := by decide +kernel
theorem dX11_difference_144 : decode cX11_difference 144 = .ok (.lload 10, 2) := by decide +kernel
theorem dX11_difference_146 : decode cX11_difference 146 = .ok (.lload 6, 2) := by decide +kernel
theorem dX11_difference_148 : decode cX11_difference 148 = .ok (.invokestatic 218, 3) := by decide +kernel
theorem dX11_difference_151 : decode cX11_difference 151 = .ok (.iload 5, 2) := by decide +kernel
theorem dX11_difference_153 : decode cX11_difference 153 = .ok (.invokestatic 153, 3) := by decide +kernel
theorem dX11_difference_156 : decode cX11_difference 156 = .ok (.lreturn, 1) := by decide +kernel
theorem dX11_moves_0 : decode cX11_moves 0 = .ok (.aload_n 0, 1) := by decide +kernel
theorem dX11_moves_1 : decode cX11_moves 1 = .ok (.getfield 61, 3) := by decide +kernel
theorem dX11_moves_4 : decode cX11_moves 4 = .ok (.iload_n 1, 1) := by decide +kernel
theorem dX11_moves_5 : decode cX11_moves 5 = .ok (.invokevirtual 221, 3) := by decide +kernel
theorem dX11_moves_8 : decode cX11_moves 8 = .ok (.ifCond .eq 18, 3) := by decide +kernel
theorem dX11_moves_11 : decode cX11_moves 11 = .ok (.aload_n 0, 1) := by decide +kernel
theorem dX11_moves_12 : decode cX11_moves 12 = .ok (.getfield 40, 3) := by decide +kernel
theorem dX11_moves_15 : decode cX11_moves 15 = .ok (.aload_n 0, 1) := by decide +kernel
theorem dX11_moves_16 : decode cX11_moves 16 = .ok (.getfield 61, 3) := by decide +kernel
theorem dX11_moves_19 : decode cX11_moves 19 = .ok (.iload_n 1, 1) := by decide +kernel
theorem dX11_moves_20 : decode cX11_moves 20 = .ok (.invokevirtual 224, 3) := by decide +kernel
theorem dX11_moves_23 : decode cX11_moves 23 = .ok (.goto 4, 3) := by decide +kernel
theorem dX11_moves_26 : decode cX11_moves 26 = .ok (.iconst (-1), 1) := by decide +kernel
theorem dX11_moves_27 : decode cX11_moves 27 = .ok (.ireturn, 1) := by decide +kernel
theorem dX11_ways_0 : decode cX11_ways 0 = .ok (.aload_n 0, 1) := by decide +kernel
theorem dX11_ways_1 : decode cX11_ways 1 = .ok (.getfield 61, 3) := by decide +kernel
theorem dX11_ways_4 : decode cX11_ways 4 = .ok (.iload_n 1, 1) := by decide +kernel
theorem dX11_ways_5 : decode cX11_ways 5 = .ok (.iload_n 2, 1) := by decide +kernel
theorem dX11_ways_6 : decode cX11_ways 6 = .ok (.invokevirtual 189, 3) := by decide +kernel
theorem dX11_ways_9 : decode cX11_ways 9 = .ok (.ifCond .eq 19, 3) := by decide +kernel
theorem dX11_ways_12 : decode cX11_ways 12 = .ok (.aload_n 0, 1) := by decide +kernel
theorem dX11_ways_13 : decode cX11_ways 13 = .ok (.getfield 40, 3) := by decide +kernel
theorem dX11_ways_16 : decode cX11_ways 16 = .ok (.aload_n 0, 1) := by decide +kernel
theorem dX11_ways_17 : decode cX11_ways 17 = .ok (.getfield 61, 3) := by decide +kernel
theorem dX11_ways_20 : decode cX11_ways 20 = .ok (.iload_n 1, 1) := by decide +kernel
theorem dX11_ways_21 : decode cX11_ways 21 = .ok (.iload_n 2, 1) := by decide +kernel
theorem dX11_ways_22 : decode cX11_ways 22 = .ok (.invokevirtual 228, 3) := by decide +kernel
theorem dX11_ways_25 : decode cX11_ways 25 = .ok (.goto 4, 3) := by decide +kernel
theorem dX11_ways_28 : decode cX11_ways 28 = .ok (.iconst (-1), 1) := by decide +kernel
theorem dX11_ways_29 : decode cX11_ways 29 = .ok (.ireturn, 1) := by decide +kernel
theorem dX11_groups_0 : decode cX11_groups 0 = .ok (.aload_n 0, 1) := by decide +kernel
theorem dX11_groups_1 : decode cX11_groups 1 = .ok (.getfield 61, 3) := by decide +kernel
theorem dX11_groups_4 : decode cX11_groups 4 = .ok (.getfield 168, 3) := by decide +kernel
theorem dX11_groups_7 : decode cX11_groups 7 = .ok (.iconst (-1), 1) := by decide +kernel
theorem dX11_groups_8 : decode cX11_groups 8 = .ok (.if_icmp .ne 5, 3) := by decide +kernel
theorem dX11_groups_11 : decode cX11_groups 11 = .ok (.iconst (-1), 1) := by decide +kernel
theorem dX11_groups_12 : decode cX11_groups 12 = .ok (.ireturn, 1) := by decide +kernel
theorem dX11_groups_13 : decode cX11_groups 13 = .ok (.aload_n 0, 1) := by decide +kernel
theorem dX11_groups_14 : decode cX11_groups 14 = .ok (.getfield 47, 3) := by decide +kernel
theorem dX11_groups_17 : decode cX11_groups 17 = .ok (.aload_n 0, 1) := by decide +kernel
theorem dX11_groups_18 : decode cX11_groups 18 = .ok (.getfield 61, 3) := by decide +kernel
theorem dX11_groups_21 : decode cX11_groups 21 = .ok (.getfield 232, 3) := by decide +kernel
theorem dX11_groups_24 : decode cX11_groups 24 = .ok (.invokevirtual 233, 3) := by decide +kernel
theorem dX11_groups_27 : decode cX11_groups 27 = .ok (.iconst 0, 1) := by decide +kernel
theorem dX11_groups_28 : decode cX11_groups 28 = .ok (.istore_n 1, 1) := by decide +kernel
theorem dX11_groups_29 : decode cX11_groups 29 = .ok (.iload_n 1, 1) := by decide +kernel
theorem dX11_groups_30 : decode cX11_groups 30 = .ok (.aload_n 0, 1) := by decide +kernel
theorem dX11_groups_31 : decode cX11_groups 31 = .ok (.getfield 61, 3) := by decide +kernel
theorem dX11_groups_34 : decode cX11_groups 34 = .ok (.getfield 176, 3) := by decide +kernel
theorem dX11_groups_37 : decode cX11_groups 37 = .ok (.if_icmp .ge 28, 3) := by decide +kernel
theorem dX11_groups_40 : decode cX11_groups 40 = .ok (.aload_n 0, 1) := by decide +kernel
theorem dX11_groups_41 : decode cX11_groups 41 = .ok (.getfield 47, 3) := by decide +kernel
theorem dX11_groups_44 : decode cX11_groups 44 = .ok (.aload_n 0, 1) := by decide +kernel
theorem dX11_groups_45 : decode cX11_groups 45 = .ok (.getfield 40, 3) := by decide +kernel
theorem dX11_groups_48 : decode cX11_groups 48 = .ok (.aload_n 0, 1) := by decide +kernel
theorem dX11_groups_49 : decode cX11_groups 49 = .ok (.getfield 61, 3) := by decide +kernel
theorem dX11_groups_52 : decode cX11_groups 52 = .ok (.iload_n 1, 1) := by decide +kernel
theorem dX11_groups_53 : decode cX11_groups 53 = .ok (.invokevirtual 224, 3) := by decide +kernel
theorem dX11_groups_56 : decode cX11_groups 56 = .ok (.invokevirtual 234, 3) := by decide +kernel
theorem dX11_groups_59 : decode cX11_groups 59 = .ok (.iinc 1 1, 3) := by decide +kernel
theorem dX11_groups_62 : decode cX11_groups 62 = .ok (.goto (-33), 3) := by decide +kernel
theorem dX11_groups_65 : decode cX11_groups 65 = .ok (.aload_n 0, 1) := by decide +kernel
theorem dX11_groups_66 : decode cX11_groups 66 = .ok (.getfield 47, 3) := by decide +kernel
theorem dX11_groups_69 : decode cX11_groups 69 = .ok (.invokevirtual 237, 3) := by decide +kernel
theorem dX11_groups_72 : decode cX11_groups 72 = .ok (.ireturn, 1) := by decide +kernel
theorem dX11_group_0 : decode cX11_group 0 = .ok (.aload_n 0, 1) := by decide +kernel
theorem dX11_group_1 : decode cX11_group 1 = .ok (.getfield 47, 3) := by decide +kernel
theorem dX11_group_4 : decode cX11_group 4 = .ok (.iload_n 1, 1) := by decide +kernel
theorem dX11_group_5 : decode cX11_group 5 = .ok (.invokevirtual 240, 3) := by decide +kernel
theorem dX11_group_8 : decode cX11_group 8 = .ok (.ireturn, 1) := by decide +kernel
theorem dX11_fault_0 : decode cX11_fault 0 = .ok (.iload_n 1, 1) := by decide +kernel
theorem dX11_fault_1 : decode cX11_fault 1 = .ok (.lookupswitch 43 #[(0, 27), (1, 35)], 27) := by decide +kernel
theorem dX11_fault_28 : decode cX11_fault 28 = .ok (.aload_n 0, 1) := by decide +kernel
theorem dX11_fault_29 : decode cX11_fault 29 = .ok (.getfield 19, 3) := by decide +kernel
theorem dX11_fault_32 : decode cX11_fault 32 = .ok (.invokevirtual 110, 3) := by decide +kernel
theorem dX11_fault_35 : decode cX11_fault 35 = .ok (.ireturn, 1) := by decide +kernel
theorem dX11_fault_36 : decode cX11_fault 36 = .ok (.aload_n 0, 1) := by decide +kernel
theorem dX11_fault_37 : decode cX11_fault 37 = .ok (.getfield 19, 3) := by decide +kernel
theorem dX11_fault_40 : decode cX11_fault 40 = .ok (.invokevirtual 113, 3) := by decide +kernel
theorem dX11_fault_43 : decode cX11_fault 43 = .ok (.ireturn, 1) := by decide +kernel
theorem dX11_fault_44 : decode cX11_fault 44 = .ok (.iconst (-1), 1) := by decide +kernel
theorem dX11_fault_45 : decode cX11_fault 45 = .ok (.ireturn, 1) := by decide +kernel
def v_c_feed : List Cond := .code yX11_feed cX11_feed 6 (some .int) :: ([.fieldLink RX11 10 "SlopeRunner" "text" "LSlopeRunner$Text;"] ++ ((wsV RX11 78 RX9 yX9_hasRoomFor v_c_Text_hasRoomFor) ++ ((wsV RX11 82 RX9 yX9_addFour v_c_Text_addFour) ++ ((wsV RX11 86 RX9 yX9_size v_c_Text_size) ++ wsX110))))
theorem g_c_feed_0 : GoodIn v_c_feed (wsV RX11 78 RX9 yX9_hasRoomFor v_c_Text_hasRoomFor) := goodIn_sub (fun w h => List.mem_cons_of_mem _ (List.mem_append_right _ (List.mem_append_left _ h))) (by decide +kernel)
theorem g_c_feed_1 : GoodIn v_c_feed (wsV RX11 82 RX9 yX9_addFour v_c_Text_addFour) := goodIn_sub (fun w h => List.mem_cons_of_mem _ (List.mem_append_right _ (List.mem_append_right _ (List.mem_append_left _ h)))) (by decide +kernel)
theorem g_c_feed_2 : GoodIn v_c_feed (wsV RX11 86 RX9 yX9_size v_c_Text_size) := goodIn_sub (fun w h => List.mem_cons_of_mem _ (List.mem_append_right _ (List.mem_append_right _ (List.mem_append_right _ (List.mem_append_left _ h))))) (by decide +kernel)
set_option maxHeartbeats 4000000 in
set_option maxRecDepth 100000 in
theorem c_feed (l : Launch) (D : va_G) (y : Nat → ClassId) (sz : Nat) (x0 t0 p0 n0 m0 s0 r0 k0 h0 w0 g0 e0 : Nat) (t1 : Nat) (f : Nat → Int32) (n : Int32) (va vb vc vd ve : Int32) (hn0 : 0 ≤ n.toInt) (hn1 : n.toInt ≤ 700) : Met l yX11_feed v_c_feed ({ frames := 1, cells := 0, slots := 0, locals := 22 } : Room) (va_Pc [.ref x0, .int va, .int vb, .int vc, .int vd, .int ve] (xPre D (xT y) [(x0, .inr (10, [.ref t0, .ref p0, .ref n0, .ref m0, .ref s0, .ref r0, .ref k0, .ref h0, .ref w0, .ref g0, .ref e0])), (t0, .inr (8, [.ref t1, .int n])), (t1, .inl (y 0, 700, .inl f))] sz)) (va_Qi (fun (r : Int32) (u : Int32 × (Nat → Int32)) => (n.toInt + 20 ≤ 700 ∧ r = u.1 ∧ u.1.toInt = n.toInt + 20) ∨ (700 < n.toInt + 20 ∧ r = -1 ∧ u.1 = n)) (fun (u : Int32 × (Nat → Int32)) => xB D (xT y) (va_A [(x0, .inr (10, [.ref t0, .ref p0, .ref n0, .ref m0, .ref s0, .ref r0, .ref k0, .ref h0, .ref w0, .ref g0, .ref e0])), (t0, .inr (8, [.ref t1, .int n])), (t1, .inl (y 0, 700, .inl f))] sz) [(x0, .inr (10, [.ref t0, .ref p0, .ref n0, .ref m0, .ref s0, .ref r0, .ref k0, .ref h0, .ref w0, .ref g0, .ref e0])), (t0, .inr (8, [.ref t1, .int u.1])), (t1, .inl (y 0, 700, .inl u.2))]) (va_A [(x0, .inr (10, [.ref t0, .ref p0, .ref n0, .ref m0, .ref s0, .ref r0, .ref k0, .ref h0, .ref w0, .ref g0, .ref e0])), (t0, .inr (8, [.ref t1, .int n])), (t1, .inl (y 0, 700, .inl f))] sz)) 0 0 (va_A [(x0, .inr (10, [.ref t0, .ref p0, .ref n0, .ref m0, .ref s0, .ref r0, .ref k0, .ref h0, .ref w0, .ref g0, .ref e0])), (t0, .inr (8, [.ref t1, .int n])), (t1, .inl (y 0, 700, .inl f))] sz) := by
  refine x_meti (cc := cX11_feed) (maxL := 6) (by decide) rfl (Nat.le_of_ble_eq_true rfl) ?_
  intro p e s m below meth c A H locs Q hx hb hml hown hts hr hlocks hmn hA hP hK hD hS ls hl hQ
  have hl : lv_has ls 6 [(0, .ref x0), (1, .int va), (2, .int vb), (3, .int vc), (4, .int vd), (5, .int ve)] := hl
  have fl10 := hts (.fieldLink RX11 10 "SlopeRunner" "text" "LSlopeRunner$Text;") (by decide +kernel)
  have inX11 : ∀ w ∈ wsX110, w ∈ v_c_feed := (fun w h => List.mem_cons_of_mem _ (List.mem_append_right _ (List.mem_append_right _ (List.mem_append_right _ (List.mem_append_right _ h)))))
  refine lv_aload_n hx hb dX11_feed_0 rfl (lv_at hl 0 rfl) ?_
  refine va_get (D := D) (ci := 10) (v := .ref t0) (C := RX11) (T := TX11) (N := 11) hx hb hts inX11 hown hK hP 0 rfl rfl 0 (by decide) fl10 (fun _ h9 => h9) rfl dX11_feed_1 ?_
  refine lv_bipush (v := 20) hx hb dX11_feed_4 (by decide) ?_
  refine x_calli (w1 := fun (u : Unit) => [(t0, .inr (8, [.ref t1, .int n])), (t1, .inl (y 0, 700, .inl f))]) (wr := [(x0, .inr (10, [.ref t0, .ref p0, .ref n0, .ref m0, .ref s0, .ref r0, .ref k0, .ref h0, .ref w0, .ref g0, .ref e0]))]) (ws' := fun (u : Unit) => [(x0, .inr (10, [.ref t0, .ref p0, .ref n0, .ref m0, .ref s0, .ref r0, .ref k0, .ref h0, .ref w0, .ref g0, .ref e0])), (t0, .inr (8, [.ref t1, .int n])), (t1, .inl (y 0, 700, .inl f))]) (va_runV (As := [.int 20]) (rest := []) ⟨hx, hb, hml, hown, hts⟩ (c_Text_hasRoomFor l D y H.size t0 t1 f n (by (try dsimp only); (try simp only [lg_cmp_lt, lg_cmp_le, lg_cmp_gt, lg_cmp_ge] at *); (try simp only [x_lt, x_le, Int32.reduceToInt, x_ltL, x_leL, Int64.reduceToInt] at *); omega) (by (try dsimp only); (try simp only [lg_cmp_lt, lg_cmp_le, lg_cmp_gt, lg_cmp_ge] at *); (try simp only [x_lt, x_le, Int32.reduceToInt, x_ltL, x_leL, Int64.reduceToInt] at *); omega)) (cwV 1 hts g_c_feed_0 rfl rfl rfl (by decide +kernel) ⟨Nat.le_of_ble_eq_true rfl, Nat.le_of_ble_eq_true rfl⟩) (x_preV (q := (RX9, TX9, 2)) hK (x_subP hP [1, 2] rfl) (x_subD hD [1, 2] rfl (by decide)) (ci := 8) (q0 := 0) rfl rfl) rfl rfl hl.1 rfl (lv_room (Nat.le_of_ble_eq_true rfl)) dX11_feed_6 ⟨Nat.le_of_ble_eq_true rfl, Nat.le_of_ble_eq_true rfl⟩) hP hD hS hA [1, 2] [0] rfl rfl (by decide) (by decide) [0, 1, 2] (fun _ => rfl) (by decide) (fun r_1 u H locs hw hP hD hS => ?_)
  try dsimp only at hw
  have hP : va_P D vwCl [(x0, .inr (10, [.ref t0, .ref p0, .ref n0, .ref m0, .ref s0, .ref r0, .ref k0, .ref h0, .ref w0, .ref g0, .ref e0])), (t0, .inr (8, [.ref t1, .int n])), (t1, .inl (y 0, 700, .inl f))] H := hP
  have hD : va_D A [(x0, .inr (10, [.ref t0, .ref p0, .ref n0, .ref m0, .ref s0, .ref r0, .ref k0, .ref h0, .ref w0, .ref g0, .ref e0])), (t0, .inr (8, [.ref t1, .int n])), (t1, .inl (y 0, 700, .inl f))] := hD
  rcases hw with ⟨rfl, g_2⟩ | ⟨rfl, g_2⟩
  · refine lv_if_ne (tgt := 14) hx hb dX11_feed_9 (by decide) (fun c_3 => ?_) (fun c_3 => ?_)
    · refine lv_aload_n hx hb dX11_feed_14 rfl (lv_at hl 0 rfl) ?_
      refine va_get (D := D) (ci := 10) (v := .ref t0) (C := RX11) (T := TX11) (N := 11) hx hb hts inX11 hown hK hP 0 rfl rfl 0 (by decide) fl10 (fun _ h9 => h9) rfl dX11_feed_15 ?_
      refine lv_iload_n hx hb dX11_feed_18 rfl (lv_at hl 1 rfl) ?_
      refine x_callv (w1 := fun (u : Int32 × (Nat → Int32)) => [(t0, .inr (8, [.ref t1, .int u.1])), (t1, .inl (y 0, 700, .inl u.2))]) (wr := [(x0, .inr (10, [.ref t0, .ref p0, .ref n0, .ref m0, .ref s0, .ref r0, .ref k0, .ref h0, .ref w0, .ref g0, .ref e0]))]) (ws' := fun (u : Int32 × (Nat → Int32)) => [(x0, .inr (10, [.ref t0, .ref p0, .ref n0, .ref m0, .ref s0, .ref r0, .ref k0, .ref h0, .ref w0, .ref g0, .ref e0])), (t0, .inr (8, [.ref t1, .int u.1])), (t1, .inl (y 0, 700, .inl u.2))]) (va_runV (As := [.int va]) (rest := []) ⟨hx, hb, hml, hown, hts⟩ (c_Text_addFour l D y H.size t0 t1 f n (by (try dsimp only); (try simp only [lg_cmp_lt, lg_cmp_le, lg_cmp_gt, lg_cmp_ge] at *); (try simp only [x_lt, x_le, Int32.reduceToInt, x_ltL, x_leL, Int64.reduceToInt] at *); omega) (by (try dsimp only); (try simp only [lg_cmp_lt, lg_cmp_le, lg_cmp_gt, lg_cmp_ge] at *); (try simp only [x_lt, x_le, Int32.reduceToInt, x_ltL, x_leL, Int64.reduceToInt] at *); omega) va) (cwV 1 hts g_c_feed_1 rfl rfl rfl (by decide +kernel) ⟨Nat.le_of_ble_eq_true rfl, Nat.le_of_ble_eq_true rfl⟩) (x_preV (q := (RX9, TX9, 2)) hK (x_subP hP [1, 2] rfl) (x_subD hD [1, 2] rfl (by decide)) (ci := 8) (q0 := 0) rfl rfl) rfl rfl hl.1 rfl (lv_room (Nat.le_of_ble_eq_true rfl)) dX11_feed_19 ⟨Nat.le_of_ble_eq_true rfl, Nat.le_of_ble_eq_true rfl⟩) hP hD hS hA [1, 2] [0] rfl rfl (by decide) (by decide) [0, 1, 2] (fun _ => rfl) (by decide) (fun u H locs hw hP hD hS => ?_)
      obtain ⟨n_4, f_5⟩ := u
      try dsimp only at hw
      have hP : va_P D vwCl [(x0, .inr (10, [.ref t0, .ref p0, .ref n0, .ref m0, .ref s0, .ref r0, .ref k0, .ref h0, .ref w0, .ref g0, .ref e0])), (t0, .inr (8, [.ref t1, .int n_4])), (t1, .inl (y 0, 700, .inl f_5))] H := hP
      have hD : va_D A [(x0, .inr (10, [.ref t0, .ref p0, .ref n0, .ref m0, .ref s0, .ref r0, .ref k0, .ref h0, .ref w0, .ref g0, .ref e0])), (t0, .inr (8, [.ref t1, .int n_4])), (t1, .inl (y 0, 700, .inl f_5))] := hD
      have qn_4 := hw
      refine lv_aload_n hx hb dX11_feed_22 rfl (lv_at hl 0 rfl) ?_
      refine va_get (D := D) (ci := 10) (v := .ref t0) (C := RX11) (T := TX11) (N := 11) hx hb hts inX11 hown hK hP 0 rfl rfl 0 (by decide) fl10 (fun _ h9 => h9) rfl dX11_feed_23 ?_
      refine lv_iload_n hx hb dX11_feed_26 rfl (lv_at hl 2 rfl) ?_
      refine x_callv (w1 := fun (u : Int32 × (Nat → Int32)) => [(t0, .inr (8, [.ref t1, .int u.1])), (t1, .inl (y 0, 700, .inl u.2))]) (wr := [(x0, .inr (10, [.ref t0, .ref p0, .ref n0, .ref m0, .ref s0, .ref r0, .ref k0, .ref h0, .ref w0, .ref g0, .ref e0]))]) (ws' := fun (u : Int32 × (Nat → Int32)) => [(x0, .inr (10, [.ref t0, .ref p0, .ref n0, .ref m0, .ref s0, .ref r0, .ref k0, .ref h0, .ref w0, .ref g0, .ref e0])), (t0, .inr (8, [.ref t1, .int u.1])), (t1, .inl (y 0, 700, .inl u.2))]) (va_runV (As := [.int vb]) (rest := []) ⟨hx, hb, hml, hown, hts⟩ (c_Text_addFour l D y H.size t0 t1 f_5 n_4 (by (try dsimp only); (try simp only [lg_cmp_lt, lg_cmp_le, lg_cmp_gt, lg_cmp_ge] at *); (try simp only [x_lt, x_le, Int32.reduceToInt, x_ltL, x_leL, Int64.reduceToInt] at *); omega) (by (try dsimp only); (try simp only [lg_cmp_lt, lg_cmp_le, lg_cmp_gt, lg_cmp_ge] at *); (try simp only [x_lt, x_le, Int32.reduceToInt, x_ltL, x_leL, Int64.reduceToInt] at *); omega) vb) (cwV 1 hts g_c_feed_1 rfl rfl rfl (by decide +kernel) ⟨Nat.le_of_ble_eq_true rfl, Nat.le_of_ble_eq_true rfl⟩) (x_preV (q := (RX9, TX9, 2)) hK (x_subP hP [1, 2] rfl) (x_subD hD [1, 2] rfl (by decide)) (ci := 8) (q0 := 0) rfl rfl) rfl rfl hl.1 rfl (lv_room (Nat.le_of_ble_eq_true rfl)) dX11_feed_27 ⟨Nat.le_of_ble_eq_true rfl, Nat.le_of_ble_eq_true rfl⟩) hP hD hS hA [1, 2] [0] rfl rfl (by decide) (by decide) [0, 1, 2] (fun _ => rfl) (by decide) (fun u H locs hw hP hD hS => ?_)
      obtain ⟨n_6, f_7⟩ := u
      try dsimp only at hw
      have hP : va_P D vwCl [(x0, .inr (10, [.ref t0, .ref p0, .ref n0, .ref m0, .ref s0, .ref r0, .ref k0, .ref h0, .ref w0, .ref g0, .ref e0])), (t0, .inr (8, [.ref t1, .int n_6])), (t1, .inl (y 0, 700, .inl f_7))] H := hP
      have hD : va_D A [(x0, .inr (10, [.ref t0, .ref p0, .ref n0, .ref m0, .ref s0, .ref r0, .ref k0, .ref h0, .ref w0, .ref g0, .ref e0])), (t0, .inr (8, [.ref t1, .int n_6])), (t1, .inl (y 0, 700, .inl f_7))] := hD
      have qn_6 := hw
      refine lv_aload_n hx hb dX11_feed_30 rfl (lv_at hl 0 rfl) ?_
      refine va_get (D := D) (ci := 10) (v := .ref t0) (C := RX11) (T := TX11) (N := 11) hx hb hts inX11 hown hK hP 0 rfl rfl 0 (by decide) fl10 (fun _ h9 => h9) rfl dX11_feed_31 ?_
      refine lv_iload_n hx hb dX11_feed_34 rfl (lv_at hl 3 rfl) ?_
      refine x_callv (w1 := fun (u : Int32 × (Nat → Int32)) => [(t0, .inr (8, [.ref t1, .int u.1])), (t1, .inl (y 0, 700, .inl u.2))]) (wr := [(x0, .inr (10, [.ref t0, .ref p0, .ref n0, .ref m0, .ref s0, .ref r0, .ref k0, .ref h0, .ref w0, .ref g0, .ref e0]))]) (ws' := fun (u : Int32 × (Nat → Int32)) => [(x0, .inr (10, [.ref t0, .ref p0, .ref n0, .ref m0, .ref s0, .ref r0, .ref k0, .ref h0, .ref w0, .ref g0, .ref e0])), (t0, .inr (8, [.ref t1, .int u.1])), (t1, .inl (y 0, 700, .inl u.2))]) (va_runV (As := [.int vc]) (rest := []) ⟨hx, hb, hml, hown, hts⟩ (c_Text_addFour l D y H.size t0 t1 f_7 n_6 (by (try dsimp only); (try simp only [lg_cmp_lt, lg_cmp_le, lg_cmp_gt, lg_cmp_ge] at *); (try simp only [x_lt, x_le, Int32.reduceToInt, x_ltL, x_leL, Int64.reduceToInt] at *); omega) (by (try dsimp only); (try simp only [lg_cmp_lt, lg_cmp_le, lg_cmp_gt, lg_cmp_ge] at *); (try simp only [x_lt, x_le, Int32.reduceToInt, x_ltL, x_leL, Int64.reduceToInt] at *); omega) vc) (cwV 1 hts g_c_feed_1 rfl rfl rfl (by decide +kernel) ⟨Nat.le_of_ble_eq_true rfl, Nat.le_of_ble_eq_true rfl⟩) (x_preV (q := (RX9, TX9, 2)) hK (x_subP hP [1, 2] rfl) (x_subD hD [1, 2] rfl (by decide)) (ci := 8) (q0 := 0) rfl rfl) rfl rfl hl.1 rfl (lv_room (Nat.le_of_ble_eq_true rfl)) dX11_feed_35 ⟨Nat.le_of_ble_eq_true rfl, Nat.le_of_ble_eq_true rfl⟩) hP hD hS hA [1, 2] [0] rfl rfl (by decide) (by decide) [0, 1, 2] (fun _ => rfl) (by decide) (fun u H locs hw hP hD hS => ?_)
      obtain ⟨n_8, f_9⟩ := u
      try dsimp only at hw
      have hP : va_P D vwCl [(x0, .inr (10, [.ref t0, .ref p0, .ref n0, .ref m0, .ref s0, .ref r0, .ref k0, .ref h0, .ref w0, .ref g0, .ref e0])), (t0, .inr (8, [.ref t1, .int n_8])), (t1, .inl (y 0, 700, .inl f_9))] H := hP
      have hD : va_D A [(x0, .inr (10, [.ref t0, .ref p0, .ref n0, .ref m0, .ref s0, .ref r0, .ref k0, .ref h0, .ref w0, .ref g0, .ref e0])), (t0, .inr (8, [.ref t1, .int n_8])), (t1, .inl (y 0, 700, .inl f_9))] := hD
      have qn_8 := hw
      refine lv_aload_n hx hb dX11_feed_38 rfl (lv_at hl 0 rfl) ?_
      refine va_get (D := D) (ci := 10) (v := .ref t0) (C := RX11) (T := TX11) (N := 11) hx hb hts inX11 hown hK hP 0 rfl rfl 0 (by decide) fl10 (fun _ h9 => h9) rfl dX11_feed_39 ?_
      refine lv_iload hx hb dX11_feed_42 (lv_at hl 4 rfl) ?_
      refine x_callv (w1 := fun (u : Int32 × (Nat → Int32)) => [(t0, .inr (8, [.ref t1, .int u.1])), (t1, .inl (y 0, 700, .inl u.2))]) (wr := [(x0, .inr (10, [.ref t0, .ref p0, .ref n0, .ref m0, .ref s0, .ref r0, .ref k0, .ref h0, .ref w0, .ref g0, .ref e0]))]) (ws' := fun (u : Int32 × (Nat → Int32)) => [(x0, .inr (10, [.ref t0, .ref p0, .ref n0, .ref m0, .ref s0, .ref r0, .ref k0, .ref h0, .ref w0, .ref g0, .ref e0])), (t0, .inr (8, [.ref t1, .int u.1])), (t1, .inl (y 0, 700, .inl u.2))]) (va_runV (As := [.int vd]) (rest := []) ⟨hx, hb, hml, hown, hts⟩ (c_Text_addFour l D y H.size t0 t1 f_9 n_8 (by (try dsimp only); (try simp only [lg_cmp_lt, lg_cmp_le, lg_cmp_gt, lg_cmp_ge] at *); (try simp only [x_lt, x_le, Int32.reduceToInt, x_ltL, x_leL, Int64.reduceToInt] at *); omega) (by (try dsimp only); (try simp only [lg_cmp_lt, lg_cmp_le, lg_cmp_gt, lg_cmp_ge] at *); (try simp only [x_lt, x_le, Int32.reduceToInt, x_ltL, x_leL, Int64.reduceToInt] at *); omega) vd) (cwV 1 hts g_c_feed_1 rfl rfl rfl (by decide +kernel) ⟨Nat.le_of_ble_eq_true rfl, Nat.le_of_ble_eq_true rfl⟩) (x_preV (q := (RX9, TX9, 2)) hK (x_subP hP [1, 2] rfl) (x_subD hD [1, 2] rfl (by decide)) (ci := 8) (q0 := 0) rfl rfl) rfl rfl hl.1 rfl (lv_room (Nat.le_of_ble_eq_true rfl)) dX11_feed_44 ⟨Nat.le_of_ble_eq_true rfl, Nat.le_of_ble_eq_true rfl⟩) hP hD hS hA [1, 2] [0] rfl rfl (by decide) (by decide) [0, 1, 2] (fun _ => rfl) (by decide) (fun u H locs hw hP hD hS => ?_)
      obtain ⟨n_10, f_11⟩ := u
      try dsimp only at hw
      have hP : va_P D vwCl [(x0, .inr (10, [.ref t0, .ref p0, .ref n0, .ref m0, .ref s0, .ref r0, .ref k0, .ref h0, .ref w0, .ref g0, .ref e0])), (t0, .inr (8, [.ref t1, .int n_10])), (t1, .inl (y 0, 700, .inl f_11))] H := hP
      have hD : va_D A [(x0, .inr (10, [.ref t0, .ref p0, .ref n0, .ref m0, .ref s0, .ref r0, .ref k0, .ref h0, .ref w0, .ref g0, .ref e0])), (t0, .inr (8, [.ref t1, .int n_10])), (t1, .inl (y 0, 700, .inl f_11))] := hD
      have qn_10 := hw
      refine lv_aload_n hx hb dX11_feed_47 rfl (lv_at hl 0 rfl) ?_
      refine va_get (D := D) (ci := 10) (v := .ref t0) (C := RX11) (T := TX11) (N := 11) hx hb hts inX11 hown hK hP 0 rfl rfl 0 (by decide) fl10 (fun _ h9 => h9) rfl dX11_feed_48 ?_
      refine lv_iload hx hb dX11_feed_51 (lv_at hl 5 rfl) ?_
      refine x_callv (w1 := fun (u : Int32 × (Nat → Int32)) => [(t0, .inr (8, [.ref t1, .int u.1])), (t1, .inl (y 0, 700, .inl u.2))]) (wr := [(x0, .inr (10, [.ref t0, .ref p0, .ref n0, .ref m0, .ref s0, .ref r0, .ref k0, .ref h0, .ref w0, .ref g0, .ref e0]))]) (ws' := fun (u : Int32 × (Nat → Int32)) => [(x0, .inr (10, [.ref t0, .ref p0, .ref n0, .ref m0, .ref s0, .ref r0, .ref k0, .ref h0, .ref w0, .ref g0, .ref e0])), (t0, .inr (8, [.ref t1, .int u.1])), (t1, .inl (y 0, 700, .inl u.2))]) (va_runV (As := [.int ve]) (rest := []) ⟨hx, hb, hml, hown, hts⟩ (c_Text_addFour l D y H.size t0 t1 f_11 n_10 (by (try dsimp only); (try simp only [lg_cmp_lt, lg_cmp_le, lg_cmp_gt, lg_cmp_ge] at *); (try simp only [x_lt, x_le, Int32.reduceToInt, x_ltL, x_leL, Int64.reduceToInt] at *); omega) (by (try dsimp only); (try simp only [lg_cmp_lt, lg_cmp_le, lg_cmp_gt, lg_cmp_ge] at *); (try simp only [x_lt, x_le, Int32.reduceToInt, x_ltL, x_leL, Int64.reduceToInt] at *); omega) ve) (cwV 1 hts g_c_feed_1 rfl rfl rfl (by decide +kernel) ⟨Nat.le_of_ble_eq_true rfl, Nat.le_of_ble_eq_true rfl⟩) (x_preV (q := (RX9, TX9, 2)) hK (x_subP hP [1, 2] rfl) (x_subD hD [1, 2] rfl (by decide)) (ci := 8) (q0 := 0) rfl rfl) rfl rfl hl.1 rfl (lv_room (Nat.le_of_ble_eq_true rfl)) dX11_feed_53 ⟨Nat.le_of_ble_eq_true rfl, Nat.le_of_ble_eq_true rfl⟩) hP hD hS hA [1, 2] [0] rfl rfl (by decide) (by decide) [0, 1, 2] (fun _ => rfl) (by decide) (fun u H locs hw hP hD hS => ?_)
      obtain ⟨n_12, f_13⟩ := u
      try dsimp only at hw
      have hP : va_P D vwCl [(x0, .inr (10, [.ref t0, .ref p0, .ref n0, .ref m0, .ref s0, .ref r0, .ref k0, .ref h0, .ref w0, .ref g0, .ref e0])), (t0, .inr (8, [.ref t1, .int n_12])), (t1, .inl (y 0, 700, .inl f_13))] H := hP
      have hD : va_D A [(x0, .inr (10, [.ref t0, .ref p0, .ref n0, .ref m0, .ref s0, .ref r0, .ref k0, .ref h0, .ref w0, .ref g0, .ref e0])), (t0, .inr (8, [.ref t1, .int n_12])), (t1, .inl (y 0, 700, .inl f_13))] := hD
      have qn_12 := hw
      refine lv_aload_n hx hb dX11_feed_56 rfl (lv_at hl 0 rfl) ?_
      refine va_get (D := D) (ci := 10) (v := .ref t0) (C := RX11) (T := TX11) (N := 11) hx hb hts inX11 hown hK hP 0 rfl rfl 0 (by decide) fl10 (fun _ h9 => h9) rfl dX11_feed_57 ?_
      refine x_calli (w1 := fun (u : Unit) => [(t0, .inr (8, [.ref t1, .int n_12])), (t1, .inl (y 0, 700, .inl f_13))]) (wr := [(x0, .inr (10, [.ref t0, .ref p0, .ref n0, .ref m0, .ref s0, .ref r0, .ref k0, .ref h0, .ref w0, .ref g0, .ref e0]))]) (ws' := fun (u : Unit) => [(x0, .inr (10, [.ref t0, .ref p0, .ref n0, .ref m0, .ref s0, .ref r0, .ref k0, .ref h0, .ref w0, .ref g0, .ref e0])), (t0, .inr (8, [.ref t1, .int n_12])), (t1, .inl (y 0, 700, .inl f_13))]) (va_runV (As := []) (rest := []) ⟨hx, hb, hml, hown, hts⟩ (c_Text_size l D y H.size t0 t1 f_13 n_12 (by (try dsimp only); (try simp only [lg_cmp_lt, lg_cmp_le, lg_cmp_gt, lg_cmp_ge] at *); (try simp only [x_lt, x_le, Int32.reduceToInt, x_ltL, x_leL, Int64.reduceToInt] at *); omega) (by (try dsimp only); (try simp only [lg_cmp_lt, lg_cmp_le, lg_cmp_gt, lg_cmp_ge] at *); (try simp only [x_lt, x_le, Int32.reduceToInt, x_ltL, x_leL, Int64.reduceToInt] at *); omega)) (cwV 0 hts g_c_feed_2 rfl rfl rfl (by decide +kernel) ⟨Nat.le_of_ble_eq_true rfl, Nat.le_of_ble_eq_true rfl⟩) (x_preV (q := (RX9, TX9, 2)) hK (x_subP hP [1, 2] rfl) (x_subD hD [1, 2] rfl (by decide)) (ci := 8) (q0 := 0) rfl rfl) rfl rfl hl.1 rfl (lv_room (Nat.le_of_ble_eq_true rfl)) dX11_feed_60 ⟨Nat.le_of_ble_eq_true rfl, Nat.le_of_ble_eq_true rfl⟩) hP hD hS hA [1, 2] [0] rfl rfl (by decide) (by decide) [0, 1, 2] (fun _ => rfl) (by decide) (fun r_14 u H locs hw hP hD hS => ?_)
      try dsimp only at hw
      have hP : va_P D vwCl [(x0, .inr (10, [.ref t0, .ref p0, .ref n0, .ref m0, .ref s0, .ref r0, .ref k0, .ref h0, .ref w0, .ref g0, .ref e0])), (t0, .inr (8, [.ref t1, .int n_12])), (t1, .inl (y 0, 700, .inl f_13))] H := hP
      have hD : va_D A [(x0, .inr (10, [.ref t0, .ref p0, .ref n0, .ref m0, .ref s0, .ref r0, .ref k0, .ref h0, .ref w0, .ref g0, .ref e0])), (t0, .inr (8, [.ref t1, .int n_12])), (t1, .inl (y 0, 700, .inl f_13))] := hD
      have hz := hw
      exact x_iret (v := r_14) (u := (n_12, f_13)) hx hb hr (by first | exact Or.inl ⟨(by (try dsimp only); (try simp only [lg_cmp_lt, lg_cmp_le, lg_cmp_gt, lg_cmp_ge] at *); (try simp only [x_lt, x_le, Int32.reduceToInt, x_ltL, x_leL, Int64.reduceToInt] at *); omega), hz, (by (try dsimp only); (try simp only [lg_cmp_lt, lg_cmp_le, lg_cmp_gt, lg_cmp_ge] at *); (try simp only [x_lt, x_le, Int32.reduceToInt, x_ltL, x_leL, Int64.reduceToInt] at *); omega)⟩ | exact Or.inr ⟨(by (try dsimp only); (try simp only [lg_cmp_lt, lg_cmp_le, lg_cmp_gt, lg_cmp_ge] at *); (try simp only [x_lt, x_le, Int32.reduceToInt, x_ltL, x_leL, Int64.reduceToInt] at *); omega), rfl, rfl⟩) hP hD hK hS [0, 1, 2] rfl (by decide) dX11_feed_63 hlocks hQ
    · exact absurd c_3 (by decide)
  · refine lv_if_ne (tgt := 14) hx hb dX11_feed_9 (by decide) (fun c_15 => ?_) (fun c_15 => ?_)
    · exact absurd (by decide) c_15
    · refine lv_iconst (v := (-1)) hx hb dX11_feed_12 (by decide) ?_
      exact x_iret (v := (-1)) (u := (n, f)) hx hb hr (by first | exact Or.inl ⟨(by (try dsimp only); (try simp only [lg_cmp_lt, lg_cmp_le, lg_cmp_gt, lg_cmp_ge] at *); (try simp only [x_lt, x_le, Int32.reduceToInt, x_ltL, x_leL, Int64.reduceToInt] at *); omega), hz, (by (try dsimp only); (try simp only [lg_cmp_lt, lg_cmp_le, lg_cmp_gt, lg_cmp_ge] at *); (try simp only [x_lt, x_le, Int32.reduceToInt, x_ltL, x_leL, Int64.reduceToInt] at *); omega)⟩ | exact Or.inr ⟨(by (try dsimp only); (try simp only [lg_cmp_lt, lg_cmp_le, lg_cmp_gt, lg_cmp_ge] at *); (try simp only [x_lt, x_le, Int32.reduceToInt, x_ltL, x_leL, Int64.reduceToInt] at *); omega), rfl, rfl⟩) hP hD hK hS [0, 1, 2] rfl (by decide) dX11_feed_13 hlocks hQ

def v_c_end : List Cond := .code yX11_end cX11_end 2 (some .boolean) :: ([.fieldLink RX11 10 "SlopeRunner" "text" "LSlopeRunner$Text;"] ++ ((wsV RX11 90 RX9 yX9_cutTo v_c_Text_cutTo) ++ wsX110))
theorem g_c_end_0 : GoodIn v_c_end (wsV RX11 90 RX9 yX9_cutTo v_c_Text_cutTo) := goodIn_sub (fun w h => List.mem_cons_of_mem _ (List.mem_append_right _ (List.mem_append_left _ h))) (by decide +kernel)
set_option maxHeartbeats 4000000 in
set_option maxRecDepth 100000 in
theorem c_end (l : Launch) (D : va_G) (y : Nat → ClassId) (sz : Nat) (x0 t0 p0 n0 m0 s0 r0 k0 h0 w0 g0 e0 : Nat) (t1 : Nat) (f : Nat → Int32) (n : Int32) (k : Int32) (hn0 : 0 ≤ n.toInt) (hn1 : n.toInt ≤ 700) : Met l yX11_end v_c_end ({ frames := 1, cells := 0, slots := 0, locals := 21 } : Room) (va_Pc [.ref x0, .int k] (xPre D (xT y) [(x0, .inr (10, [.ref t0, .ref p0, .ref n0, .ref m0, .ref s0, .ref r0, .ref k0, .ref h0, .ref w0, .ref g0, .ref e0])), (t0, .inr (8, [.ref t1, .int n])), (t1, .inl (y 0, 700, .inl f))] sz)) (va_Qi (fun (r : Int32) (u : Int32) => (r = 1 ∧ 0 ≤ k.toInt ∧ k.toInt ≤ n.toInt ∧ u = k) ∨ (r = 0 ∧ (k.toInt < 0 ∨ n.toInt < k.toInt) ∧ u = n)) (fun (u : Int32) => xB D (xT y) (va_A [(x0, .inr (10, [.ref t0, .ref p0, .ref n0, .ref m0, .ref s0, .ref r0, .ref k0, .ref h0, .ref w0, .ref g0, .ref e0])), (t0, .inr (8, [.ref t1, .int n])), (t1, .inl (y 0, 700, .inl f))] sz) [(x0, .inr (10, [.ref t0, .ref p0, .ref n0, .ref m0, .ref s0, .ref r0, .ref k0, .ref h0, .ref w0, .ref g0, .ref e0])), (t0, .inr (8, [.ref t1, .int u])), (t1, .inl (y 0, 700, .inl f))]) (va_A [(x0, .inr (10, [.ref t0, .ref p0, .ref n0, .ref m0, .ref s0, .ref r0, .ref k0, .ref h0, .ref w0, .ref g0, .ref e0])), (t0, .inr (8, [.ref t1, .int n])), (t1, .inl (y 0, 700, .inl f))] sz)) 0 0 (va_A [(x0, .inr (10, [.ref t0, .ref p0, .ref n0, .ref m0, .ref s0, .ref r0, .ref k0, .ref h0, .ref w0, .ref g0, .ref e0])), (t0, .inr (8, [.ref t1, .int n])), (t1, .inl (y 0, 700, .inl f))] sz) := by
  refine x_meti (cc := cX11_end) (maxL := 2) (by decide) rfl (Nat.le_of_ble_eq_true rfl) ?_
  intro p e s m below meth c A H locs Q hx hb hml hown hts hr hlocks hmn hA hP hK hD hS ls hl hQ
  have hl : lv_has ls 2 [(0, .ref x0), (1, .int k)] := hl
  have fl10 := hts (.fieldLink RX11 10 "SlopeRunner" "text" "LSlopeRunner$Text;") (by decide +kernel)
  have inX11 : ∀ w ∈ wsX110, w ∈ v_c_end := (fun w h => List.mem_cons_of_mem _ (List.mem_append_right _ (List.mem_append_right _ h)))
  refine lv_aload_n hx hb dX11_end_0 rfl (lv_at hl 0 rfl) ?_
  refine va_get (D := D) (ci := 10) (v := .ref t0) (C := RX11) (T := TX11) (N := 11) hx hb hts inX11 hown hK hP 0 rfl rfl 0 (by decide) fl10 (fun _ h9 => h9) rfl dX11_end_1 ?_
  refine lv_iload_n hx hb dX11_end_4 rfl (lv_at hl 1 rfl) ?_
  refine x_calli (w1 := fun (u : Int32) => [(t0, .inr (8, [.ref t1, .int u])), (t1, .inl (y 0, 700, .inl f))]) (wr := [(x0, .inr (10, [.ref t0, .ref p0, .ref n0, .ref m0, .ref s0, .ref r0, .ref k0, .ref h0, .ref w0, .ref g0, .ref e0]))]) (ws' := fun (u : Int32) => [(x0, .inr (10, [.ref t0, .ref p0, .ref n0, .ref m0, .ref s0, .ref r0, .ref k0, .ref h0, .ref w0, .ref g0, .ref e0])), (t0, .inr (8, [.ref t1, .int u])), (t1, .inl (y 0, 700, .inl f))]) (va_runV (As := [.int k]) (rest := []) ⟨hx, hb, hml, hown, hts⟩ (c_Text_cutTo l D y H.size t0 t1 f n (by (try dsimp only); (try simp only [lg_cmp_lt, lg_cmp_le, lg_cmp_gt, lg_cmp_ge] at *); (try simp only [x_lt, x_le, Int32.reduceToInt, x_ltL, x_leL, Int64.reduceToInt] at *); omega) (by (try dsimp only); (try simp only [lg_cmp_lt, lg_cmp_le, lg_cmp_gt, lg_cmp_ge] at *); (try simp only [x_lt, x_le, Int32.reduceToInt, x_ltL, x_leL, Int64.reduceToInt] at *); omega) k) (cwV 1 hts g_c_end_0 rfl rfl rfl (by decide +kernel) ⟨Nat.le_of_ble_eq_true rfl, Nat.le_of_ble_eq_true rfl⟩) (x_preV (q := (RX9, TX9, 2)) hK (x_subP hP [1, 2] rfl) (x_subD hD [1, 2] rfl (by decide)) (ci := 8) (q0 := 0) rfl rfl) rfl rfl hl.1 rfl (lv_room (Nat.le_of_ble_eq_true rfl)) dX11_end_5 ⟨Nat.le_of_ble_eq_true rfl, Nat.le_of_ble_eq_true rfl⟩) hP hD hS hA [1, 2] [0] rfl rfl (by decide) (by decide) [0, 1, 2] (fun _ => rfl) (by decide) (fun r_1 u H locs hw hP hD hS => ?_)
  obtain ⟨n_2, rfl⟩ : ∃ z, z = u := ⟨_, rfl⟩
  try dsimp only at hw
  have hP : va_P D vwCl [(x0, .inr (10, [.ref t0, .ref p0, .ref n0, .ref m0, .ref s0, .ref r0, .ref k0, .ref h0, .ref w0, .ref g0, .ref e0])), (t0, .inr (8, [.ref t1, .int n_2])), (t1, .inl (y 0, 700, .inl f))] H := hP
  have hD : va_D A [(x0, .inr (10, [.ref t0, .ref p0, .ref n0, .ref m0, .ref s0, .ref r0, .ref k0, .ref h0, .ref w0, .ref g0, .ref e0])), (t0, .inr (8, [.ref t1, .int n_2])), (t1, .inl (y 0, 700, .inl f))] := hD
  exact x_zret (v := r_1) (u := n_2) hx hb hr (by rcases hw with ⟨e0, e1⟩ | ⟨e0, e1⟩ <;> (subst e0; rfl)) hw hP hD hK hS [0, 1, 2] rfl (by decide) dX11_end_8 hlocks hQ

def v_c_program0 : List Cond := .code yX11_program cX11_program 3 (some .int) :: ([.fieldLink RX11 19 "SlopeRunner" "parser" "LSlopeRunner$Parser;", .fieldLink RX11 10 "SlopeRunner" "text" "LSlopeRunner$Text;", .fieldLink RX11 75 "SlopeRunner" "spare" "LSlopeRunner$Program;", .fieldLink RX11 71 "SlopeRunner" "current" "LSlopeRunner$Program;", .fieldLink RX11 26 "SlopeRunner" "inputs" "LSlopeRunner$Inputs;", .fieldLink RX11 97 "SlopeRunner$Program" "inputs" "I", .fieldLink RX11 61 "SlopeRunner" "latest" "LSlopeRunner$Tape;", .fieldLink RX11 47 "SlopeRunner" "grouping" "LSlopeRunner$Grouping;", .fieldLink RX11 107 "SlopeRunner$Program" "statements" "I"] ++ ((wsV RX11 93 RX5 yX5_read v_c_Parser_read0) ++ ((wsV RX11 90 RX9 yX9_cutTo v_c_Text_cutTo) ++ ((wsV RX11 100 RX2 yX2_begin v_c_Inputs_begin) ++ ((wsV RX11 103 RX8 yX8_forget v_c_Tape_forget) ++ ((wsV RX11 106 RX1 yX1_forget v_c_Grouping_forget) ++ (wsX110 ++ wsX60)))))))
theorem g_c_program0_0 : GoodIn v_c_program0 (wsV RX11 93 RX5 yX5_read v_c_Parser_read0) := goodIn_sub (fun w h => List.mem_cons_of_mem _ (List.mem_append_right _ (List.mem_append_left _ h))) (by decide +kernel)
theorem g_c_program0_1 : GoodIn v_c_program0 (wsV RX11 90 RX9 yX9_cutTo v_c_Text_cutTo) := goodIn_sub (fun w h => List.mem_cons_of_mem _ (List.mem_append_right _ (List.mem_append_right _ (List.mem_append_left _ h)))) (by decide +kernel)
theorem g_c_program0_2 : GoodIn v_c_program0 (wsV RX11 100 RX2 yX2_begin v_c_Inputs_begin) := goodIn_sub (fun w h => List.mem_cons_of_mem _ (List.mem_append_right _ (List.mem_append_right _ (List.mem_append_right _ (List.mem_append_left _ h))))) (by decide +kernel)
theorem g_c_program0_3 : GoodIn v_c_program0 (wsV RX11 103 RX8 yX8_forget v_c_Tape_forget) := goodIn_sub (fun w h => List.mem_cons_of_mem _ (List.mem_append_right _ (List.mem_append_right _ (List.mem_append_right _ (List.mem_append_right _ (List.mem_append_left _ h)))))) (by decide +kernel)
theorem g_c_program0_4 : GoodIn v_c_program0 (wsV RX11 106 RX1 yX1_forget v_c_Grouping_forget) := goodIn_sub (fun w h => List.mem_cons_of_mem _ (List.mem_append_right _ (List.mem_append_right _ (List.mem_append_right _ (List.mem_append_right _ (List.mem_append_right _ (List.mem_append_left _ h))))))) (by decide +kernel)
set_option maxHeartbeats 4000000 in
set_option maxRecDepth 100000 in
theorem c_program0 (l : Launch) (D : va_G) (y : Nat → ClassId) (sz : Nat) (x0 t0 p0 n0 m0 s0 r0 k0 h0 w0 g0 e0 : Nat) (t1 k1 b0 b1 b2 b3 c0 c1 c2 c3 c4 c5 d0 d1 d2 d3 d4 d5 i0 i1 i2 i3 a0 a1 a2 a3 a4 j0 j1 : Nat) (kc kl pa pk po pf pb pp cnt dn kn st ni fs sz0 sp nr ed gi : Int32) (nn : Int64) (tf : Nat → Int32) (fv : Nat → Int64) : Met l yX11_program v_c_program0 ({ frames := 3, cells := 0, slots := 0, locals := 65 } : Room) (va_Pc [.ref x0] (xPre D (xT y) [(x0, .inr (10, [.ref t0, .ref p0, .ref n0, .ref m0, .ref s0, .ref r0, .ref k0, .ref h0, .ref w0, .ref g0, .ref e0])), (t0, .inr (8, [.ref t1, .int 0])), (t1, .inl (y 0, 700, .inl tf)), (p0, .inr (4, [.ref k1, .null, .int pa, .int pk, .int po, .int pf, .int pb, .int pp])), (k1, .inr (9, [.ref b0, .ref b1, .ref b2, .ref b3, .int kc, .int kl])), (g0, .inr (5, [.int 0, .int 0, .int 0, .int 0, .int 0, .int 0, .ref c0, .int 0, .ref c1, .ref c2, .ref c3, .ref c4, .ref c5])), (e0, .inr (5, [.int 0, .int 0, .int 0, .int 0, .int 0, .int 0, .ref d0, .int 0, .ref d1, .ref d2, .ref d3, .ref d4, .ref d5])), (n0, .inr (1, [.ref i0, .ref i1, .ref i2, .ref i3, .int cnt, .int dn, .int kn])), (i0, .inl (y 3, 8, .inr (.inl fv))), (h0, .inr (7, [.ref a0, .ref a1, .ref a2, .ref a3, .ref a4, .int st, .int ni, .int fs, .int sz0, .int sp, .int nr, .int ed, .long nn])), (r0, .inr (0, [.ref j0, .ref j1, .int gi]))] sz)) (va_Qi (fun (r : Int32) (_ : Nat → Int64) => r = 0) (fun (u : Nat → Int64) => xB D (xT y) (va_A [(x0, .inr (10, [.ref t0, .ref p0, .ref n0, .ref m0, .ref s0, .ref r0, .ref k0, .ref h0, .ref w0, .ref g0, .ref e0])), (t0, .inr (8, [.ref t1, .int 0])), (t1, .inl (y 0, 700, .inl tf)), (p0, .inr (4, [.ref k1, .null, .int pa, .int pk, .int po, .int pf, .int pb, .int pp])), (k1, .inr (9, [.ref b0, .ref b1, .ref b2, .ref b3, .int kc, .int kl])), (g0, .inr (5, [.int 0, .int 0, .int 0, .int 0, .int 0, .int 0, .ref c0, .int 0, .ref c1, .ref c2, .ref c3, .ref c4, .ref c5])), (e0, .inr (5, [.int 0, .int 0, .int 0, .int 0, .int 0, .int 0, .ref d0, .int 0, .ref d1, .ref d2, .ref d3, .ref d4, .ref d5])), (n0, .inr (1, [.ref i0, .ref i1, .ref i2, .ref i3, .int cnt, .int dn, .int kn])), (i0, .inl (y 3, 8, .inr (.inl fv))), (h0, .inr (7, [.ref a0, .ref a1, .ref a2, .ref a3, .ref a4, .int st, .int ni, .int fs, .int sz0, .int sp, .int nr, .int ed, .long nn])), (r0, .inr (0, [.ref j0, .ref j1, .int gi]))] sz) [(x0, .inr (10, [.ref t0, .ref p0, .ref n0, .ref m0, .ref s0, .ref r0, .ref k0, .ref h0, .ref w0, .ref e0, .ref g0])), (t0, .inr (8, [.ref t1, .int 0])), (t1, .inl (y 0, 700, .inl tf)), (p0, .inr (4, [.ref k1, .ref e0, .int 0, .int 256, .int 0, .int 0, .int pb, .int (-1)])), (k1, .inr (9, [.ref b0, .ref b1, .ref b2, .ref b3, .int 0, .int 0])), (g0, .inr (5, [.int 0, .int 0, .int 0, .int 0, .int 0, .int 0, .ref c0, .int 0, .ref c1, .ref c2, .ref c3, .ref c4, .ref c5])), (e0, .inr (5, [.int 0, .int 0, .int 0, .int 0, .int 0, .int 0, .ref d0, .int 0, .ref d1, .ref d2, .ref d3, .ref d4, .ref d5])), (n0, .inr (1, [.ref i0, .ref i1, .ref i2, .ref i3, .int 0, .int 0, .int 0])), (i0, .inl (y 3, 8, .inr (.inl u))), (h0, .inr (7, [.ref a0, .ref a1, .ref a2, .ref a3, .ref a4, .int (-1), .int 0, .int 0, .int 0, .int 0, .int 0, .int 0, .long 0])), (r0, .inr (0, [.ref j0, .ref j1, .int 0]))]) (va_A [(x0, .inr (10, [.ref t0, .ref p0, .ref n0, .ref m0, .ref s0, .ref r0, .ref k0, .ref h0, .ref w0, .ref g0, .ref e0])), (t0, .inr (8, [.ref t1, .int 0])), (t1, .inl (y 0, 700, .inl tf)), (p0, .inr (4, [.ref k1, .null, .int pa, .int pk, .int po, .int pf, .int pb, .int pp])), (k1, .inr (9, [.ref b0, .ref b1, .ref b2, .ref b3, .int kc, .int kl])), (g0, .inr (5, [.int 0, .int 0, .int 0, .int 0, .int 0, .int 0, .ref c0, .int 0, .ref c1, .ref c2, .ref c3, .ref c4, .ref c5])), (e0, .inr (5, [.int 0, .int 0, .int 0, .int 0, .int 0, .int 0, .ref d0, .int 0, .ref d1, .ref d2, .ref d3, .ref d4, .ref d5])), (n0, .inr (1, [.ref i0, .ref i1, .ref i2, .ref i3, .int cnt, .int dn, .int kn])), (i0, .inl (y 3, 8, .inr (.inl fv))), (h0, .inr (7, [.ref a0, .ref a1, .ref a2, .ref a3, .ref a4, .int st, .int ni, .int fs, .int sz0, .int sp, .int nr, .int ed, .long nn])), (r0, .inr (0, [.ref j0, .ref j1, .int gi]))] sz)) 0 0 (va_A [(x0, .inr (10, [.ref t0, .ref p0, .ref n0, .ref m0, .ref s0, .ref r0, .ref k0, .ref h0, .ref w0, .ref g0, .ref e0])), (t0, .inr (8, [.ref t1, .int 0])), (t1, .inl (y 0, 700, .inl tf)), (p0, .inr (4, [.ref k1, .null, .int pa, .int pk, .int po, .int pf, .int pb, .int pp])), (k1, .inr (9, [.ref b0, .ref b1, .ref b2, .ref b3, .int kc, .int kl])), (g0, .inr (5, [.int 0, .int 0, .int 0, .int 0, .int 0, .int 0, .ref c0, .int 0, .ref c1, .ref c2, .ref c3, .ref c4, .ref c5])), (e0, .inr (5, [.int 0, .int 0, .int 0, .int 0, .int 0, .int 0, .ref d0, .int 0, .ref d1, .ref d2, .ref d3, .ref d4, .ref d5])), (n0, .inr (1, [.ref i0, .ref i1, .ref i2, .ref i3, .int cnt, .int dn, .int kn])), (i0, .inl (y 3, 8, .inr (.inl fv))), (h0, .inr (7, [.ref a0, .ref a1, .ref a2, .ref a3, .ref a4, .int st, .int ni, .int fs, .int sz0, .int sp, .int nr, .int ed, .long nn])), (r0, .inr (0, [.ref j0, .ref j1, .int gi]))] sz) := by
  refine x_meti (cc := cX11_program) (maxL := 3) (by decide) rfl (Nat.le_of_ble_eq_true rfl) ?_
  intro p e s m below meth c A H locs Q hx hb hml hown hts hr hlocks hmn hA hP hK hD hS ls hl hQ
  have hl : lv_has ls 3 [(0, .ref x0)] := hl
  have fl19 := hts (.fieldLink RX11 19 "SlopeRunner" "parser" "LSlopeRunner$Parser;") (by decide +kernel)
  have inX11 : ∀ w ∈ wsX110, w ∈ v_c_program0 := (fun w h => List.mem_cons_of_mem _ (List.mem_append_right _ (List.mem_append_right _ (List.mem_append_right _ (List.mem_append_right _ (List.mem_append_right _ (List.mem_append_right _ (List.mem_append_left _ h))))))))
  have fl10 := hts (.fieldLink RX11 10 "SlopeRunner" "text" "LSlopeRunner$Text;") (by decide +kernel)
  have fl75 := hts (.fieldLink RX11 75 "SlopeRunner" "spare" "LSlopeRunner$Program;") (by decide +kernel)
  have fl71 := hts (.fieldLink RX11 71 "SlopeRunner" "current" "LSlopeRunner$Program;") (by decide +kernel)
  have fl26 := hts (.fieldLink RX11 26 "SlopeRunner" "inputs" "LSlopeRunner$Inputs;") (by decide +kernel)
  have fl97 := hts (.fieldLink RX11 97 "SlopeRunner$Program" "inputs" "I") (by decide +kernel)
  have inX6 : ∀ w ∈ wsX60, w ∈ v_c_program0 := (fun w h => List.mem_cons_of_mem _ (List.mem_append_right _ (List.mem_append_right _ (List.mem_append_right _ (List.mem_append_right _ (List.mem_append_right _ (List.mem_append_right _ (List.mem_append_right _ h))))))))
  have fl61 := hts (.fieldLink RX11 61 "SlopeRunner" "latest" "LSlopeRunner$Tape;") (by decide +kernel)
  have fl47 := hts (.fieldLink RX11 47 "SlopeRunner" "grouping" "LSlopeRunner$Grouping;") (by decide +kernel)
  have fl107 := hts (.fieldLink RX11 107 "SlopeRunner$Program" "statements" "I") (by decide +kernel)
  refine lv_aload_n hx hb dX11_program_0 rfl (lv_at hl 0 rfl) ?_
  refine va_get (D := D) (ci := 10) (v := .ref p0) (C := RX11) (T := TX11) (N := 11) hx hb hts inX11 hown hK hP 0 rfl rfl 1 (by decide) fl19 (fun _ h9 => h9) rfl dX11_program_1 ?_
  refine lv_aload_n hx hb dX11_program_4 rfl (lv_at hl 0 rfl) ?_
  refine va_get (D := D) (ci := 10) (v := .ref t0) (C := RX11) (T := TX11) (N := 11) hx hb hts inX11 hown hK hP 0 rfl rfl 0 (by decide) fl10 (fun _ h9 => h9) rfl dX11_program_5 ?_
  refine lv_aload_n hx hb dX11_program_8 rfl (lv_at hl 0 rfl) ?_
  refine va_get (D := D) (ci := 10) (v := .ref e0) (C := RX11) (T := TX11) (N := 11) hx hb hts inX11 hown hK hP 0 rfl rfl 10 (by decide) fl75 (fun _ h9 => h9) rfl dX11_program_9 ?_
  refine x_calli (w1 := fun (u : Unit) => [(p0, .inr (4, [.ref k1, .ref e0, .int 0, .int 256, .int 0, .int 0, .int pb, .int (-1)])), (k1, .inr (9, [.ref b0, .ref b1, .ref b2, .ref b3, .int 0, .int 0])), (t0, .inr (8, [.ref t1, .int 0])), (t1, .inl (y 0, 700, .inl tf)), (e0, .inr (5, [.int 0, .int 0, .int 0, .int 0, .int 0, .int 0, .ref d0, .int 0, .ref d1, .ref d2, .ref d3, .ref d4, .ref d5]))]) (wr := [(x0, .inr (10, [.ref t0, .ref p0, .ref n0, .ref m0, .ref s0, .ref r0, .ref k0, .ref h0, .ref w0, .ref g0, .ref e0])), (g0, .inr (5, [.int 0, .int 0, .int 0, .int 0, .int 0, .int 0, .ref c0, .int 0, .ref c1, .ref c2, .ref c3, .ref c4, .ref c5])), (n0, .inr (1, [.ref i0, .ref i1, .ref i2, .ref i3, .int cnt, .int dn, .int kn])), (i0, .inl (y 3, 8, .inr (.inl fv))), (h0, .inr (7, [.ref a0, .ref a1, .ref a2, .ref a3, .ref a4, .int st, .int ni, .int fs, .int sz0, .int sp, .int nr, .int ed, .long nn])), (r0, .inr (0, [.ref j0, .ref j1, .int gi]))]) (ws' := fun (u : Unit) => [(x0, .inr (10, [.ref t0, .ref p0, .ref n0, .ref m0, .ref s0, .ref r0, .ref k0, .ref h0, .ref w0, .ref g0, .ref e0])), (t0, .inr (8, [.ref t1, .int 0])), (t1, .inl (y 0, 700, .inl tf)), (p0, .inr (4, [.ref k1, .ref e0, .int 0, .int 256, .int 0, .int 0, .int pb, .int (-1)])), (k1, .inr (9, [.ref b0, .ref b1, .ref b2, .ref b3, .int 0, .int 0])), (g0, .inr (5, [.int 0, .int 0, .int 0, .int 0, .int 0, .int 0, .ref c0, .int 0, .ref c1, .ref c2, .ref c3, .ref c4, .ref c5])), (e0, .inr (5, [.int 0, .int 0, .int 0, .int 0, .int 0, .int 0, .ref d0, .int 0, .ref d1, .ref d2, .ref d3, .ref d4, .ref d5])), (n0, .inr (1, [.ref i0, .ref i1, .ref i2, .ref i3, .int cnt, .int dn, .int kn])), (i0, .inl (y 3, 8, .inr (.inl fv))), (h0, .inr (7, [.ref a0, .ref a1, .ref a2, .ref a3, .ref a4, .int st, .int ni, .int fs, .int sz0, .int sp, .int nr, .int ed, .long nn])), (r0, .inr (0, [.ref j0, .ref j1, .int gi]))]) (va_runV (As := [.ref t0, .ref e0]) (rest := []) ⟨hx, hb, hml, hown, hts⟩ (c_Parser_read0 l D y H.size p0 k1 b0 b1 b2 b3 t0 t1 e0 d0 d1 d2 d3 d4 d5 kc kl pa pk po pf pb pp 0 0 0 0 0 0 0 tf) (cwV 2 hts g_c_program0_0 rfl rfl rfl (by decide +kernel) ⟨Nat.le_of_ble_eq_true rfl, Nat.le_of_ble_eq_true rfl⟩) (x_preV (q := (RX5, TX5, 8)) hK (x_subP hP [3, 4, 1, 2, 6] rfl) (x_subD hD [3, 4, 1, 2, 6] rfl (by decide)) (ci := 4) (q0 := 0) rfl rfl) rfl rfl hl.1 rfl (lv_room (Nat.le_of_ble_eq_true rfl)) dX11_program_12 ⟨Nat.le_of_ble_eq_true rfl, Nat.le_of_ble_eq_true rfl⟩) hP hD hS hA [3, 4, 1, 2, 6] [0, 5, 7, 8, 9, 10] rfl rfl (by decide) (by decide) [0, 8, 9, 6, 7, 1, 10, 2, 3, 4, 5] (fun _ => rfl) (by decide) (fun r_1 u H locs hw hP hD hS => ?_)
  try dsimp only at hw
  obtain rfl : r_1 = 1 := hw
  have hP : va_P D vwCl [(x0, .inr (10, [.ref t0, .ref p0, .ref n0, .ref m0, .ref s0, .ref r0, .ref k0, .ref h0, .ref w0, .ref g0, .ref e0])), (t0, .inr (8, [.ref t1, .int 0])), (t1, .inl (y 0, 700, .inl tf)), (p0, .inr (4, [.ref k1, .ref e0, .int 0, .int 256, .int 0, .int 0, .int pb, .int (-1)])), (k1, .inr (9, [.ref b0, .ref b1, .ref b2, .ref b3, .int 0, .int 0])), (g0, .inr (5, [.int 0, .int 0, .int 0, .int 0, .int 0, .int 0, .ref c0, .int 0, .ref c1, .ref c2, .ref c3, .ref c4, .ref c5])), (e0, .inr (5, [.int 0, .int 0, .int 0, .int 0, .int 0, .int 0, .ref d0, .int 0, .ref d1, .ref d2, .ref d3, .ref d4, .ref d5])), (n0, .inr (1, [.ref i0, .ref i1, .ref i2, .ref i3, .int cnt, .int dn, .int kn])), (i0, .inl (y 3, 8, .inr (.inl fv))), (h0, .inr (7, [.ref a0, .ref a1, .ref a2, .ref a3, .ref a4, .int st, .int ni, .int fs, .int sz0, .int sp, .int nr, .int ed, .long nn])), (r0, .inr (0, [.ref j0, .ref j1, .int gi]))] H := hP
  have hD : va_D A [(x0, .inr (10, [.ref t0, .ref p0, .ref n0, .ref m0, .ref s0, .ref r0, .ref k0, .ref h0, .ref w0, .ref g0, .ref e0])), (t0, .inr (8, [.ref t1, .int 0])), (t1, .inl (y 0, 700, .inl tf)), (p0, .inr (4, [.ref k1, .ref e0, .int 0, .int 256, .int 0, .int 0, .int pb, .int (-1)])), (k1, .inr (9, [.ref b0, .ref b1, .ref b2, .ref b3, .int 0, .int 0])), (g0, .inr (5, [.int 0, .int 0, .int 0, .int 0, .int 0, .int 0, .ref c0, .int 0, .ref c1, .ref c2, .ref c3, .ref c4, .ref c5])), (e0, .inr (5, [.int 0, .int 0, .int 0, .int 0, .int 0, .int 0, .ref d0, .int 0, .ref d1, .ref d2, .ref d3, .ref d4, .ref d5])), (n0, .inr (1, [.ref i0, .ref i1, .ref i2, .ref i3, .int cnt, .int dn, .int kn])), (i0, .inl (y 3, 8, .inr (.inl fv))), (h0, .inr (7, [.ref a0, .ref a1, .ref a2, .ref a3, .ref a4, .int st, .int ni, .int fs, .int sz0, .int sp, .int nr, .int ed, .long nn])), (r0, .inr (0, [.ref j0, .ref j1, .int gi]))] := hD
  refine lv_istore_n (lv' := [(1, .int 1), (0, .ref x0)]) hx hb dX11_program_15 rfl hl (by decide) rfl (fun ls hl => ?_)
  refine lv_aload_n hx hb dX11_program_16 rfl (lv_at hl 1 rfl) ?_
  refine va_get (D := D) (ci := 10) (v := .ref t0) (C := RX11) (T := TX11) (N := 11) hx hb hts inX11 hown hK hP 0 rfl rfl 0 (by decide) fl10 (fun _ h9 => h9) rfl dX11_program_17 ?_
  refine lv_iconst (v := 0) hx hb dX11_program_20 (by decide) ?_
  refine x_calli (w1 := fun (u : Int32) => [(t0, .inr (8, [.ref t1, .int u])), (t1, .inl (y 0, 700, .inl tf))]) (wr := [(x0, .inr (10, [.ref t0, .ref p0, .ref n0, .ref m0, .ref s0, .ref r0, .ref k0, .ref h0, .ref w0, .ref g0, .ref e0])), (p0, .inr (4, [.ref k1, .ref e0, .int 0, .int 256, .int 0, .int 0, .int pb, .int (-1)])), (k1, .inr (9, [.ref b0, .ref b1, .ref b2, .ref b3, .int 0, .int 0])), (g0, .inr (5, [.int 0, .int 0, .int 0, .int 0, .int 0, .int 0, .ref c0, .int 0, .ref c1, .ref c2, .ref c3, .ref c4, .ref c5])), (e0, .inr (5, [.int 0, .int 0, .int 0, .int 0, .int 0, .int 0, .ref d0, .int 0, .ref d1, .ref d2, .ref d3, .ref d4, .ref d5])), (n0, .inr (1, [.ref i0, .ref i1, .ref i2, .ref i3, .int cnt, .int dn, .int kn])), (i0, .inl (y 3, 8, .inr (.inl fv))), (h0, .inr (7, [.ref a0, .ref a1, .ref a2, .ref a3, .ref a4, .int st, .int ni, .int fs, .int sz0, .int sp, .int nr, .int ed, .long nn])), (r0, .inr (0, [.ref j0, .ref j1, .int gi]))]) (ws' := fun (u : Int32) => [(x0, .inr (10, [.ref t0, .ref p0, .ref n0, .ref m0, .ref s0, .ref r0, .ref k0, .ref h0, .ref w0, .ref g0, .ref e0])), (t0, .inr (8, [.ref t1, .int u])), (t1, .inl (y 0, 700, .inl tf)), (p0, .inr (4, [.ref k1, .ref e0, .int 0, .int 256, .int 0, .int 0, .int pb, .int (-1)])), (k1, .inr (9, [.ref b0, .ref b1, .ref b2, .ref b3, .int 0, .int 0])), (g0, .inr (5, [.int 0, .int 0, .int 0, .int 0, .int 0, .int 0, .ref c0, .int 0, .ref c1, .ref c2, .ref c3, .ref c4, .ref c5])), (e0, .inr (5, [.int 0, .int 0, .int 0, .int 0, .int 0, .int 0, .ref d0, .int 0, .ref d1, .ref d2, .ref d3, .ref d4, .ref d5])), (n0, .inr (1, [.ref i0, .ref i1, .ref i2, .ref i3, .int cnt, .int dn, .int kn])), (i0, .inl (y 3, 8, .inr (.inl fv))), (h0, .inr (7, [.ref a0, .ref a1, .ref a2, .ref a3, .ref a4, .int st, .int ni, .int fs, .int sz0, .int sp, .int nr, .int ed, .long nn])), (r0, .inr (0, [.ref j0, .ref j1, .int gi]))]) (va_runV (As := [.int 0]) (rest := []) ⟨hx, hb, hml, hown, hts⟩ (c_Text_cutTo l D y H.size t0 t1 tf 0 (by decide) (by decide) 0) (cwV 1 hts g_c_program0_1 rfl rfl rfl (by decide +kernel) ⟨Nat.le_of_ble_eq_true rfl, Nat.le_of_ble_eq_true rfl⟩) (x_preV (q := (RX9, TX9, 2)) hK (x_subP hP [1, 2] rfl) (x_subD hD [1, 2] rfl (by decide)) (ci := 8) (q0 := 0) rfl rfl) rfl rfl hl.1 rfl (lv_room (Nat.le_of_ble_eq_true rfl)) dX11_program_21 ⟨Nat.le_of_ble_eq_true rfl, Nat.le_of_ble_eq_true rfl⟩) hP hD hS hA [1, 2] [0, 3, 4, 5, 6, 7, 8, 9, 10] rfl rfl (by decide) (by decide) [0, 9, 10, 1, 2, 3, 4, 5, 6, 7, 8] (fun _ => rfl) (by decide) (fun r_2 u H locs hw hP hD hS => ?_)
  obtain ⟨n_3, rfl⟩ : ∃ z, z = u := ⟨_, rfl⟩
  try dsimp only at hw
  have hP : va_P D vwCl [(x0, .inr (10, [.ref t0, .ref p0, .ref n0, .ref m0, .ref s0, .ref r0, .ref k0, .ref h0, .ref w0, .ref g0, .ref e0])), (t0, .inr (8, [.ref t1, .int n_3])), (t1, .inl (y 0, 700, .inl tf)), (p0, .inr (4, [.ref k1, .ref e0, .int 0, .int 256, .int 0, .int 0, .int pb, .int (-1)])), (k1, .inr (9, [.ref b0, .ref b1, .ref b2, .ref b3, .int 0, .int 0])), (g0, .inr (5, [.int 0, .int 0, .int 0, .int 0, .int 0, .int 0, .ref c0, .int 0, .ref c1, .ref c2, .ref c3, .ref c4, .ref c5])), (e0, .inr (5, [.int 0, .int 0, .int 0, .int 0, .int 0, .int 0, .ref d0, .int 0, .ref d1, .ref d2, .ref d3, .ref d4, .ref d5])), (n0, .inr (1, [.ref i0, .ref i1, .ref i2, .ref i3, .int cnt, .int dn, .int kn])), (i0, .inl (y 3, 8, .inr (.inl fv))), (h0, .inr (7, [.ref a0, .ref a1, .ref a2, .ref a3, .ref a4, .int st, .int ni, .int fs, .int sz0, .int sp, .int nr, .int ed, .long nn])), (r0, .inr (0, [.ref j0, .ref j1, .int gi]))] H := hP
  have hD : va_D A [(x0, .inr (10, [.ref t0, .ref p0, .ref n0, .ref m0, .ref s0, .ref r0, .ref k0, .ref h0, .ref w0, .ref g0, .ref e0])), (t0, .inr (8, [.ref t1, .int n_3])), (t1, .inl (y 0, 700, .inl tf)), (p0, .inr (4, [.ref k1, .ref e0, .int 0, .int 256, .int 0, .int 0, .int pb, .int (-1)])), (k1, .inr (9, [.ref b0, .ref b1, .ref b2, .ref b3, .int 0, .int 0])), (g0, .inr (5, [.int 0, .int 0, .int 0, .int 0, .int 0, .int 0, .ref c0, .int 0, .ref c1, .ref c2, .ref c3, .ref c4, .ref c5])), (e0, .inr (5, [.int 0, .int 0, .int 0, .int 0, .int 0, .int 0, .ref d0, .int 0, .ref d1, .ref d2, .ref d3, .ref d4, .ref d5])), (n0, .inr (1, [.ref i0, .ref i1, .ref i2, .ref i3, .int cnt, .int dn, .int kn])), (i0, .inl (y 3, 8, .inr (.inl fv))), (h0, .inr (7, [.ref a0, .ref a1, .ref a2, .ref a3, .ref a4, .int st, .int ni, .int fs, .int sz0, .int sp, .int nr, .int ed, .long nn])), (r0, .inr (0, [.ref j0, .ref j1, .int gi]))] := hD
  have hz : n_3 = 0 := by rcases hw with ⟨e0, e1, e2, e3⟩ | ⟨e0, e1, e2⟩ <;> assumption
  subst hz
  have hP : va_P D vwCl [(x0, .inr (10, [.ref t0, .ref p0, .ref n0, .ref m0, .ref s0, .ref r0, .ref k0, .ref h0, .ref w0, .ref g0, .ref e0])), (t0, .inr (8, [.ref t1, .int 0])), (t1, .inl (y 0, 700, .inl tf)), (p0, .inr (4, [.ref k1, .ref e0, .int 0, .int 256, .int 0, .int 0, .int pb, .int (-1)])), (k1, .inr (9, [.ref b0, .ref b1, .ref b2, .ref b3, .int 0, .int 0])), (g0, .inr (5, [.int 0, .int 0, .int 0, .int 0, .int 0, .int 0, .ref c0, .int 0, .ref c1, .ref c2, .ref c3, .ref c4, .ref c5])), (e0, .inr (5, [.int 0, .int 0, .int 0, .int 0, .int 0, .int 0, .ref d0, .int 0, .ref d1, .ref d2, .ref d3, .ref d4, .ref d5])), (n0, .inr (1, [.ref i0, .ref i1, .ref i2, .ref i3, .int cnt, .int dn, .int kn])), (i0, .inl (y 3, 8, .inr (.inl fv))), (h0, .inr (7, [.ref a0, .ref a1, .ref a2, .ref a3, .ref a4, .int st, .int ni, .int fs, .int sz0, .int sp, .int nr, .int ed, .long nn])), (r0, .inr (0, [.ref j0, .ref j1, .int gi]))] H := hP
  have hD : va_D A [(x0, .inr (10, [.ref t0, .ref p0, .ref n0, .ref m0, .ref s0, .ref r0, .ref k0, .ref h0, .ref w0, .ref g0, .ref e0])), (t0, .inr (8, [.ref t1, .int 0])), (t1, .inl (y 0, 700, .inl tf)), (p0, .inr (4, [.ref k1, .ref e0, .int 0, .int 256, .int 0, .int 0, .int pb, .int (-1)])), (k1, .inr (9, [.ref b0, .ref b1, .ref b2, .ref b3, .int 0, .int 0])), (g0, .inr (5, [.int 0, .int 0, .int 0, .int 0, .int 0, .int 0, .ref c0, .int 0, .ref c1, .ref c2, .ref c3, .ref c4, .ref c5])), (e0, .inr (5, [.int 0, .int 0, .int 0, .int 0, .int 0, .int 0, .ref d0, .int 0, .ref d1, .ref d2, .ref d3, .ref d4, .ref d5])), (n0, .inr (1, [.ref i0, .ref i1, .ref i2, .ref i3, .int cnt, .int dn, .int kn])), (i0, .inl (y 3, 8, .inr (.inl fv))), (h0, .inr (7, [.ref a0, .ref a1, .ref a2, .ref a3, .ref a4, .int st, .int ni, .int fs, .int sz0, .int sp, .int nr, .int ed, .long nn])), (r0, .inr (0, [.ref j0, .ref j1, .int gi]))] := hD
  refine lv_pop hx hb dX11_program_24 rfl ?_
  refine lv_iload_n hx hb dX11_program_25 rfl (lv_at hl 0 rfl) ?_
  refine lv_if_ne (tgt := 31) hx hb dX11_program_26 (by decide) (fun c_4 => ?_) (fun c_4 => ?_)
  · refine lv_aload_n hx hb dX11_program_31 rfl (lv_at hl 1 rfl) ?_
    refine va_get (D := D) (ci := 10) (v := .ref g0) (C := RX11) (T := TX11) (N := 11) hx hb hts inX11 hown hK hP 0 rfl rfl 9 (by decide) fl71 (fun _ h9 => h9) rfl dX11_program_32 ?_
    refine lv_astore_n (lv' := [(2, .ref g0), (1, .int 1), (0, .ref x0)]) hx hb dX11_program_35 rfl hl (by decide) rfl (fun ls hl => ?_)
    refine lv_aload_n hx hb dX11_program_36 rfl (lv_at hl 2 rfl) ?_
    refine lv_aload_n hx hb dX11_program_37 rfl (lv_at hl 2 rfl) ?_
    refine va_get (D := D) (ci := 10) (v := .ref e0) (C := RX11) (T := TX11) (N := 11) hx hb hts inX11 hown hK hP 0 rfl rfl 10 (by decide) fl75 (fun _ h9 => h9) rfl dX11_program_38 ?_
    refine va_put (D := D) (ci := 10) (v := .ref e0) (ty := (.object "SlopeRunner$Program")) (C := RX11) (T := TX11) (N := 11) hx hb hts inX11 tyX11 tyX11_ok nmX11 hown hK hP hD hS 0 rfl rfl 9 (by decide) fl71 (fun _ h9 => h9) rfl (by decide +kernel) rfl rfl (Nat.le_of_ble_eq_true rfl) dX11_program_41 (fun H locs hP hD hS => ?_)
    have hP : va_P D vwCl [(x0, .inr (10, [.ref t0, .ref p0, .ref n0, .ref m0, .ref s0, .ref r0, .ref k0, .ref h0, .ref w0, .ref e0, .ref e0])), (t0, .inr (8, [.ref t1, .int 0])), (t1, .inl (y 0, 700, .inl tf)), (p0, .inr (4, [.ref k1, .ref e0, .int 0, .int 256, .int 0, .int 0, .int pb, .int (-1)])), (k1, .inr (9, [.ref b0, .ref b1, .ref b2, .ref b3, .int 0, .int 0])), (g0, .inr (5, [.int 0, .int 0, .int 0, .int 0, .int 0, .int 0, .ref c0, .int 0, .ref c1, .ref c2, .ref c3, .ref c4, .ref c5])), (e0, .inr (5, [.int 0, .int 0, .int 0, .int 0, .int 0, .int 0, .ref d0, .int 0, .ref d1, .ref d2, .ref d3, .ref d4, .ref d5])), (n0, .inr (1, [.ref i0, .ref i1, .ref i2, .ref i3, .int cnt, .int dn, .int kn])), (i0, .inl (y 3, 8, .inr (.inl fv))), (h0, .inr (7, [.ref a0, .ref a1, .ref a2, .ref a3, .ref a4, .int st, .int ni, .int fs, .int sz0, .int sp, .int nr, .int ed, .long nn])), (r0, .inr (0, [.ref j0, .ref j1, .int gi]))] H := hP
    have hD : va_D A [(x0, .inr (10, [.ref t0, .ref p0, .ref n0, .ref m0, .ref s0, .ref r0, .ref k0, .ref h0, .ref w0, .ref e0, .ref e0])), (t0, .inr (8, [.ref t1, .int 0])), (t1, .inl (y 0, 700, .inl tf)), (p0, .inr (4, [.ref k1, .ref e0, .int 0, .int 256, .int 0, .int 0, .int pb, .int (-1)])), (k1, .inr (9, [.ref b0, .ref b1, .ref b2, .ref b3, .int 0, .int 0])), (g0, .inr (5, [.int 0, .int 0, .int 0, .int 0, .int 0, .int 0, .ref c0, .int 0, .ref c1, .ref c2, .ref c3, .ref c4, .ref c5])), (e0, .inr (5, [.int 0, .int 0, .int 0, .int 0, .int 0, .int 0, .ref d0, .int 0, .ref d1, .ref d2, .ref d3, .ref d4, .ref d5])), (n0, .inr (1, [.ref i0, .ref i1, .ref i2, .ref i3, .int cnt, .int dn, .int kn])), (i0, .inl (y 3, 8, .inr (.inl fv))), (h0, .inr (7, [.ref a0, .ref a1, .ref a2, .ref a3, .ref a4, .int st, .int ni, .int fs, .int sz0, .int sp, .int nr, .int ed, .long nn])), (r0, .inr (0, [.ref j0, .ref j1, .int gi]))] := hD
    refine lv_aload_n hx hb dX11_program_44 rfl (lv_at hl 2 rfl) ?_
    refine lv_aload_n hx hb dX11_program_45 rfl (lv_at hl 0 rfl) ?_
    refine va_put (D := D) (ci := 10) (v := .ref g0) (ty := (.object "SlopeRunner$Program")) (C := RX11) (T := TX11) (N := 11) hx hb hts inX11 tyX11 tyX11_ok nmX11 hown hK hP hD hS 0 rfl rfl 10 (by decide) fl75 (fun _ h9 => h9) rfl (by decide +kernel) rfl rfl (Nat.le_of_ble_eq_true rfl) dX11_program_46 (fun H locs hP hD hS => ?_)
    have hP : va_P D vwCl [(x0, .inr (10, [.ref t0, .ref p0, .ref n0, .ref m0, .ref s0, .ref r0, .ref k0, .ref h0, .ref w0, .ref e0, .ref g0])), (t0, .inr (8, [.ref t1, .int 0])), (t1, .inl (y 0, 700, .inl tf)), (p0, .inr (4, [.ref k1, .ref e0, .int 0, .int 256, .int 0, .int 0, .int pb, .int (-1)])), (k1, .inr (9, [.ref b0, .ref b1, .ref b2, .ref b3, .int 0, .int 0])), (g0, .inr (5, [.int 0, .int 0, .int 0, .int 0, .int 0, .int 0, .ref c0, .int 0, .ref c1, .ref c2, .ref c3, .ref c4, .ref c5])), (e0, .inr (5, [.int 0, .int 0, .int 0, .int 0, .int 0, .int 0, .ref d0, .int 0, .ref d1, .ref d2, .ref d3, .ref d4, .ref d5])), (n0, .inr (1, [.ref i0, .ref i1, .ref i2, .ref i3, .int cnt, .int dn, .int kn])), (i0, .inl (y 3, 8, .inr (.inl fv))), (h0, .inr (7, [.ref a0, .ref a1, .ref a2, .ref a3, .ref a4, .int st, .int ni, .int fs, .int sz0, .int sp, .int nr, .int ed, .long nn])), (r0, .inr (0, [.ref j0, .ref j1, .int gi]))] H := hP
    have hD : va_D A [(x0, .inr (10, [.ref t0, .ref p0, .ref n0, .ref m0, .ref s0, .ref r0, .ref k0, .ref h0, .ref w0, .ref e0, .ref g0])), (t0, .inr (8, [.ref t1, .int 0])), (t1, .inl (y 0, 700, .inl tf)), (p0, .inr (4, [.ref k1, .ref e0, .int 0, .int 256, .int 0, .int 0, .int pb, .int (-1)])), (k1, .inr (9, [.ref b0, .ref b1, .ref b2, .ref b3, .int 0, .int 0])), (g0, .inr (5, [.int 0, .int 0, .int 0, .int 0, .int 0, .int 0, .ref c0, .int 0, .ref c1, .ref c2, .ref c3, .ref c4, .ref c5])), (e0, .inr (5, [.int 0, .int 0, .int 0, .int 0, .int 0, .int 0, .ref d0, .int 0, .ref d1, .ref d2, .ref d3, .ref d4, .ref d5])), (n0, .inr (1, [.ref i0, .ref i1, .ref i2, .ref i3, .int cnt, .int dn, .int kn])), (i0, .inl (y 3, 8, .inr (.inl fv))), (h0, .inr (7, [.ref a0, .ref a1, .ref a2, .ref a3, .ref a4, .int st, .int ni, .int fs, .int sz0, .int sp, .int nr, .int ed, .long nn])), (r0, .inr (0, [.ref j0, .ref j1, .int gi]))] := hD
    refine lv_aload_n hx hb dX11_program_49 rfl (lv_at hl 2 rfl) ?_
    refine va_get (D := D) (ci := 10) (v := .ref n0) (C := RX11) (T := TX11) (N := 11) hx hb hts inX11 hown hK hP 0 rfl rfl 2 (by decide) fl26 (fun _ h9 => h9) rfl dX11_program_50 ?_
    refine lv_aload_n hx hb dX11_program_53 rfl (lv_at hl 2 rfl) ?_
    refine va_get (D := D) (ci := 10) (v := .ref e0) (C := RX11) (T := TX11) (N := 11) hx hb hts inX11 hown hK hP 0 rfl rfl 9 (by decide) fl71 (fun _ h9 => h9) rfl dX11_program_54 ?_
    refine va_get (D := D) (ci := 5) (v := .int 0) (C := RX6) (T := TX6) (N := 13) hx hb hts inX6 hown hK hP 6 rfl rfl 0 (by decide) fl97 (fun _ h9 => h9) rfl dX11_program_57 ?_
    refine x_callv (w1 := fun (u : Nat → Int64) => [(n0, .inr (1, [.ref i0, .ref i1, .ref i2, .ref i3, .int 0, .int 0, .int 0])), (i0, .inl (y 3, 8, .inr (.inl u)))]) (wr := [(x0, .inr (10, [.ref t0, .ref p0, .ref n0, .ref m0, .ref s0, .ref r0, .ref k0, .ref h0, .ref w0, .ref e0, .ref g0])), (t0, .inr (8, [.ref t1, .int 0])), (t1, .inl (y 0, 700, .inl tf)), (p0, .inr (4, [.ref k1, .ref e0, .int 0, .int 256, .int 0, .int 0, .int pb, .int (-1)])), (k1, .inr (9, [.ref b0, .ref b1, .ref b2, .ref b3, .int 0, .int 0])), (g0, .inr (5, [.int 0, .int 0, .int 0, .int 0, .int 0, .int 0, .ref c0, .int 0, .ref c1, .ref c2, .ref c3, .ref c4, .ref c5])), (e0, .inr (5, [.int 0, .int 0, .int 0, .int 0, .int 0, .int 0, .ref d0, .int 0, .ref d1, .ref d2, .ref d3, .ref d4, .ref d5])), (h0, .inr (7, [.ref a0, .ref a1, .ref a2, .ref a3, .ref a4, .int st, .int ni, .int fs, .int sz0, .int sp, .int nr, .int ed, .long nn])), (r0, .inr (0, [.ref j0, .ref j1, .int gi]))]) (ws' := fun (u : Nat → Int64) => [(x0, .inr (10, [.ref t0, .ref p0, .ref n0, .ref m0, .ref s0, .ref r0, .ref k0, .ref h0, .ref w0, .ref e0, .ref g0])), (t0, .inr (8, [.ref t1, .int 0])), (t1, .inl (y 0, 700, .inl tf)), (p0, .inr (4, [.ref k1, .ref e0, .int 0, .int 256, .int 0, .int 0, .int pb, .int (-1)])), (k1, .inr (9, [.ref b0, .ref b1, .ref b2, .ref b3, .int 0, .int 0])), (g0, .inr (5, [.int 0, .int 0, .int 0, .int 0, .int 0, .int 0, .ref c0, .int 0, .ref c1, .ref c2, .ref c3, .ref c4, .ref c5])), (e0, .inr (5, [.int 0, .int 0, .int 0, .int 0, .int 0, .int 0, .ref d0, .int 0, .ref d1, .ref d2, .ref d3, .ref d4, .ref d5])), (n0, .inr (1, [.ref i0, .ref i1, .ref i2, .ref i3, .int 0, .int 0, .int 0])), (i0, .inl (y 3, 8, .inr (.inl u))), (h0, .inr (7, [.ref a0, .ref a1, .ref a2, .ref a3, .ref a4, .int st, .int ni, .int fs, .int sz0, .int sp, .int nr, .int ed, .long nn])), (r0, .inr (0, [.ref j0, .ref j1, .int gi]))]) (va_runV (As := [.int 0]) (rest := []) ⟨hx, hb, hml, hown, hts⟩ (c_Inputs_begin l D y H.size n0 i0 i1 i2 i3 cnt dn kn fv 0) (cwV 1 hts g_c_program0_2 rfl rfl rfl (by decide +kernel) ⟨Nat.le_of_ble_eq_true rfl, Nat.le_of_ble_eq_true rfl⟩) (x_preV (q := (RX2, TX2, 7)) hK (x_subP hP [7, 8] rfl) (x_subD hD [7, 8] rfl (by decide)) (ci := 1) (q0 := 0) rfl rfl) rfl rfl hl.1 rfl (lv_room (Nat.le_of_ble_eq_true rfl)) dX11_program_60 ⟨Nat.le_of_ble_eq_true rfl, Nat.le_of_ble_eq_true rfl⟩) hP hD hS hA [7, 8] [0, 1, 2, 3, 4, 5, 6, 9, 10] rfl rfl (by decide) (by decide) [0, 1, 2, 3, 4, 5, 6, 9, 10, 7, 8] (fun _ => rfl) (by decide) (fun u H locs hw hP hD hS => ?_)
    obtain ⟨f_5, rfl⟩ : ∃ z, z = u := ⟨_, rfl⟩
    try dsimp only at hw
    have hP : va_P D vwCl [(x0, .inr (10, [.ref t0, .ref p0, .ref n0, .ref m0, .ref s0, .ref r0, .ref k0, .ref h0, .ref w0, .ref e0, .ref g0])), (t0, .inr (8, [.ref t1, .int 0])), (t1, .inl (y 0, 700, .inl tf)), (p0, .inr (4, [.ref k1, .ref e0, .int 0, .int 256, .int 0, .int 0, .int pb, .int (-1)])), (k1, .inr (9, [.ref b0, .ref b1, .ref b2, .ref b3, .int 0, .int 0])), (g0, .inr (5, [.int 0, .int 0, .int 0, .int 0, .int 0, .int 0, .ref c0, .int 0, .ref c1, .ref c2, .ref c3, .ref c4, .ref c5])), (e0, .inr (5, [.int 0, .int 0, .int 0, .int 0, .int 0, .int 0, .ref d0, .int 0, .ref d1, .ref d2, .ref d3, .ref d4, .ref d5])), (n0, .inr (1, [.ref i0, .ref i1, .ref i2, .ref i3, .int 0, .int 0, .int 0])), (i0, .inl (y 3, 8, .inr (.inl f_5))), (h0, .inr (7, [.ref a0, .ref a1, .ref a2, .ref a3, .ref a4, .int st, .int ni, .int fs, .int sz0, .int sp, .int nr, .int ed, .long nn])), (r0, .inr (0, [.ref j0, .ref j1, .int gi]))] H := hP
    have hD : va_D A [(x0, .inr (10, [.ref t0, .ref p0, .ref n0, .ref m0, .ref s0, .ref r0, .ref k0, .ref h0, .ref w0, .ref e0, .ref g0])), (t0, .inr (8, [.ref t1, .int 0])), (t1, .inl (y 0, 700, .inl tf)), (p0, .inr (4, [.ref k1, .ref e0, .int 0, .int 256, .int 0, .int 0, .int pb, .int (-1)])), (k1, .inr (9, [.ref b0, .ref b1, .ref b2, .ref b3, .int 0, .int 0])), (g0, .inr (5, [.int 0, .int 0, .int 0, .int 0, .int 0, .int 0, .ref c0, .int 0, .ref c1, .ref c2, .ref c3, .ref c4, .ref c5])), (e0, .inr (5, [.int 0, .int 0, .int 0, .int 0, .int 0, .int 0, .ref d0, .int 0, .ref d1, .ref d2, .ref d3, .ref d4, .ref d5])), (n0, .inr (1, [.ref i0, .ref i1, .ref i2, .ref i3, .int 0, .int 0, .int 0])), (i0, .inl (y 3, 8, .inr (.inl f_5))), (h0, .inr (7, [.ref a0, .ref a1, .ref a2, .ref a3, .ref a4, .int st, .int ni, .int fs, .int sz0, .int sp, .int nr, .int ed, .long nn])), (r0, .inr (0, [.ref j0, .ref j1, .int gi]))] := hD
    refine lv_aload_n hx hb dX11_program_63 rfl (lv_at hl 2 rfl) ?_
    refine va_get (D := D) (ci := 10) (v := .ref h0) (C := RX11) (T := TX11) (N := 11) hx hb hts inX11 hown hK hP 0 rfl rfl 7 (by decide) fl61 (fun _ h9 => h9) rfl dX11_program_64 ?_
    refine x_callv (w1 := fun (u : Unit) => [(h0, .inr (7, [.ref a0, .ref a1, .ref a2, .ref a3, .ref a4, .int (-1), .int 0, .int 0, .int 0, .int 0, .int 0, .int 0, .long 0]))]) (wr := [(x0, .inr (10, [.ref t0, .ref p0, .ref n0, .ref m0, .ref s0, .ref r0, .ref k0, .ref h0, .ref w0, .ref e0, .ref g0])), (t0, .inr (8, [.ref t1, .int 0])), (t1, .inl (y 0, 700, .inl tf)), (p0, .inr (4, [.ref k1, .ref e0, .int 0, .int 256, .int 0, .int 0, .int pb, .int (-1)])), (k1, .inr (9, [.ref b0, .ref b1, .ref b2, .ref b3, .int 0, .int 0])), (g0, .inr (5, [.int 0, .int 0, .int 0, .int 0, .int 0, .int 0, .ref c0, .int 0, .ref c1, .ref c2, .ref c3, .ref c4, .ref c5])), (e0, .inr (5, [.int 0, .int 0, .int 0, .int 0, .int 0, .int 0, .ref d0, .int 0, .ref d1, .ref d2, .ref d3, .ref d4, .ref d5])), (n0, .inr (1, [.ref i0, .ref i1, .ref i2, .ref i3, .int 0, .int 0, .int 0])), (i0, .inl (y 3, 8, .inr (.inl f_5))), (r0, .inr (0, [.ref j0, .ref j1, .int gi]))]) (ws' := fun (u : Unit) => [(x0, .inr (10, [.ref t0, .ref p0, .ref n0, .ref m0, .ref s0, .ref r0, .ref k0, .ref h0, .ref w0, .ref e0, .ref g0])), (t0, .inr (8, [.ref t1, .int 0])), (t1, .inl (y 0, 700, .inl tf)), (p0, .inr (4, [.ref k1, .ref e0, .int 0, .int 256, .int 0, .int 0, .int pb, .int (-1)])), (k1, .inr (9, [.ref b0, .ref b1, .ref b2, .ref b3, .int 0, .int 0])), (g0, .inr (5, [.int 0, .int 0, .int 0, .int 0, .int 0, .int 0, .ref c0, .int 0, .ref c1, .ref c2, .ref c3, .ref c4, .ref c5])), (e0, .inr (5, [.int 0, .int 0, .int 0, .int 0, .int 0, .int 0, .ref d0, .int 0, .ref d1, .ref d2, .ref d3, .ref d4, .ref d5])), (n0, .inr (1, [.ref i0, .ref i1, .ref i2, .ref i3, .int 0, .int 0, .int 0])), (i0, .inl (y 3, 8, .inr (.inl f_5))), (h0, .inr (7, [.ref a0, .ref a1, .ref a2, .ref a3, .ref a4, .int (-1), .int 0, .int 0, .int 0, .int 0, .int 0, .int 0, .long 0])), (r0, .inr (0, [.ref j0, .ref j1, .int gi]))]) (va_runV (As := []) (rest := []) ⟨hx, hb, hml, hown, hts⟩ (c_Tape_forget l D y H.size h0 a0 a1 a2 a3 a4 st ni fs sz0 sp nr ed nn) (cwV 0 hts g_c_program0_3 rfl rfl rfl (by decide +kernel) ⟨Nat.le_of_ble_eq_true rfl, Nat.le_of_ble_eq_true rfl⟩) (x_preV (q := (RX8, TX8, 13)) hK (x_subP hP [9] rfl) (x_subD hD [9] rfl (by decide)) (ci := 7) (q0 := 0) rfl rfl) rfl rfl hl.1 rfl (lv_room (Nat.le_of_ble_eq_true rfl)) dX11_program_67 ⟨Nat.le_of_ble_eq_true rfl, Nat.le_of_ble_eq_true rfl⟩) hP hD hS hA [9] [0, 1, 2, 3, 4, 5, 6, 7, 8, 10] rfl rfl (by decide) (by decide) [0, 1, 2, 3, 4, 5, 6, 7, 8, 10, 9] (fun _ => rfl) (by decide) (fun u H locs hw hP hD hS => ?_)
    try dsimp only at hw
    have hP : va_P D vwCl [(x0, .inr (10, [.ref t0, .ref p0, .ref n0, .ref m0, .ref s0, .ref r0, .ref k0, .ref h0, .ref w0, .ref e0, .ref g0])), (t0, .inr (8, [.ref t1, .int 0])), (t1, .inl (y 0, 700, .inl tf)), (p0, .inr (4, [.ref k1, .ref e0, .int 0, .int 256, .int 0, .int 0, .int pb, .int (-1)])), (k1, .inr (9, [.ref b0, .ref b1, .ref b2, .ref b3, .int 0, .int 0])), (g0, .inr (5, [.int 0, .int 0, .int 0, .int 0, .int 0, .int 0, .ref c0, .int 0, .ref c1, .ref c2, .ref c3, .ref c4, .ref c5])), (e0, .inr (5, [.int 0, .int 0, .int 0, .int 0, .int 0, .int 0, .ref d0, .int 0, .ref d1, .ref d2, .ref d3, .ref d4, .ref d5])), (n0, .inr (1, [.ref i0, .ref i1, .ref i2, .ref i3, .int 0, .int 0, .int 0])), (i0, .inl (y 3, 8, .inr (.inl f_5))), (h0, .inr (7, [.ref a0, .ref a1, .ref a2, .ref a3, .ref a4, .int (-1), .int 0, .int 0, .int 0, .int 0, .int 0, .int 0, .long 0])), (r0, .inr (0, [.ref j0, .ref j1, .int gi]))] H := hP
    have hD : va_D A [(x0, .inr (10, [.ref t0, .ref p0, .ref n0, .ref m0, .ref s0, .ref r0, .ref k0, .ref h0, .ref w0, .ref e0, .ref g0])), (t0, .inr (8, [.ref t1, .int 0])), (t1, .inl (y 0, 700, .inl tf)), (p0, .inr (4, [.ref k1, .ref e0, .int 0, .int 256, .int 0, .int 0, .int pb, .int (-1)])), (k1, .inr (9, [.ref b0, .ref b1, .ref b2, .ref b3, .int 0, .int 0])), (g0, .inr (5, [.int 0, .int 0, .int 0, .int 0, .int 0, .int 0, .ref c0, .int 0, .ref c1, .ref c2, .ref c3, .ref c4, .ref c5])), (e0, .inr (5, [.int 0, .int 0, .int 0, .int 0, .int 0, .int 0, .ref d0, .int 0, .ref d1, .ref d2, .ref d3, .ref d4, .ref d5])), (n0, .inr (1, [.ref i0, .ref i1, .ref i2, .ref i3, .int 0, .int 0, .int 0])), (i0, .inl (y 3, 8, .inr (.inl f_5))), (h0, .inr (7, [.ref a0, .ref a1, .ref a2, .ref a3, .ref a4, .int (-1), .int 0, .int 0, .int 0, .int 0, .int 0, .int 0, .long 0])), (r0, .inr (0, [.ref j0, .ref j1, .int gi]))] := hD
    refine lv_aload_n hx hb dX11_program_70 rfl (lv_at hl 2 rfl) ?_
    refine va_get (D := D) (ci := 10) (v := .ref r0) (C := RX11) (T := TX11) (N := 11) hx hb hts inX11 hown hK hP 0 rfl rfl 5 (by decide) fl47 (fun _ h9 => h9) rfl dX11_program_71 ?_
    refine x_callv (w1 := fun (u : Unit) => [(r0, .inr (0, [.ref j0, .ref j1, .int 0]))]) (wr := [(x0, .inr (10, [.ref t0, .ref p0, .ref n0, .ref m0, .ref s0, .ref r0, .ref k0, .ref h0, .ref w0, .ref e0, .ref g0])), (t0, .inr (8, [.ref t1, .int 0])), (t1, .inl (y 0, 700, .inl tf)), (p0, .inr (4, [.ref k1, .ref e0, .int 0, .int 256, .int 0, .int 0, .int pb, .int (-1)])), (k1, .inr (9, [.ref b0, .ref b1, .ref b2, .ref b3, .int 0, .int 0])), (g0, .inr (5, [.int 0, .int 0, .int 0, .int 0, .int 0, .int 0, .ref c0, .int 0, .ref c1, .ref c2, .ref c3, .ref c4, .ref c5])), (e0, .inr (5, [.int 0, .int 0, .int 0, .int 0, .int 0, .int 0, .ref d0, .int 0, .ref d1, .ref d2, .ref d3, .ref d4, .ref d5])), (n0, .inr (1, [.ref i0, .ref i1, .ref i2, .ref i3, .int 0, .int 0, .int 0])), (i0, .inl (y 3, 8, .inr (.inl f_5))), (h0, .inr (7, [.ref a0, .ref a1, .ref a2, .ref a3, .ref a4, .int (-1), .int 0, .int 0, .int 0, .int 0, .int 0, .int 0, .long 0]))]) (ws' := fun (u : Unit) => [(x0, .inr (10, [.ref t0, .ref p0, .ref n0, .ref m0, .ref s0, .ref r0, .ref k0, .ref h0, .ref w0, .ref e0, .ref g0])), (t0, .inr (8, [.ref t1, .int 0])), (t1, .inl (y 0, 700, .inl tf)), (p0, .inr (4, [.ref k1, .ref e0, .int 0, .int 256, .int 0, .int 0, .int pb, .int (-1)])), (k1, .inr (9, [.ref b0, .ref b1, .ref b2, .ref b3, .int 0, .int 0])), (g0, .inr (5, [.int 0, .int 0, .int 0, .int 0, .int 0, .int 0, .ref c0, .int 0, .ref c1, .ref c2, .ref c3, .ref c4, .ref c5])), (e0, .inr (5, [.int 0, .int 0, .int 0, .int 0, .int 0, .int 0, .ref d0, .int 0, .ref d1, .ref d2, .ref d3, .ref d4, .ref d5])), (n0, .inr (1, [.ref i0, .ref i1, .ref i2, .ref i3, .int 0, .int 0, .int 0])), (i0, .inl (y 3, 8, .inr (.inl f_5))), (h0, .inr (7, [.ref a0, .ref a1, .ref a2, .ref a3, .ref a4, .int (-1), .int 0, .int 0, .int 0, .int 0, .int 0, .int 0, .long 0])), (r0, .inr (0, [.ref j0, .ref j1, .int 0]))]) (va_runV (As := []) (rest := []) ⟨hx, hb, hml, hown, hts⟩ (c_Grouping_forget l D y H.size r0 j0 j1 gi) (cwV 0 hts g_c_program0_4 rfl rfl rfl (by decide +kernel) ⟨Nat.le_of_ble_eq_true rfl, Nat.le_of_ble_eq_true rfl⟩) (x_preV (q := (RX1, TX1, 3)) hK (x_subP hP [10] rfl) (x_subD hD [10] rfl (by decide)) (ci := 0) (q0 := 0) rfl rfl) rfl rfl hl.1 rfl (lv_room (Nat.le_of_ble_eq_true rfl)) dX11_program_74 ⟨Nat.le_of_ble_eq_true rfl, Nat.le_of_ble_eq_true rfl⟩) hP hD hS hA [10] [0, 1, 2, 3, 4, 5, 6, 7, 8, 9] rfl rfl (by decide) (by decide) [0, 1, 2, 3, 4, 5, 6, 7, 8, 9, 10] (fun _ => rfl) (by decide) (fun u H locs hw hP hD hS => ?_)
    try dsimp only at hw
    have hP : va_P D vwCl [(x0, .inr (10, [.ref t0, .ref p0, .ref n0, .ref m0, .ref s0, .ref r0, .ref k0, .ref h0, .ref w0, .ref e0, .ref g0])), (t0, .inr (8, [.ref t1, .int 0])), (t1, .inl (y 0, 700, .inl tf)), (p0, .inr (4, [.ref k1, .ref e0, .int 0, .int 256, .int 0, .int 0, .int pb, .int (-1)])), (k1, .inr (9, [.ref b0, .ref b1, .ref b2, .ref b3, .int 0, .int 0])), (g0, .inr (5, [.int 0, .int 0, .int 0, .int 0, .int 0, .int 0, .ref c0, .int 0, .ref c1, .ref c2, .ref c3, .ref c4, .ref c5])), (e0, .inr (5, [.int 0, .int 0, .int 0, .int 0, .int 0, .int 0, .ref d0, .int 0, .ref d1, .ref d2, .ref d3, .ref d4, .ref d5])), (n0, .inr (1, [.ref i0, .ref i1, .ref i2, .ref i3, .int 0, .int 0, .int 0])), (i0, .inl (y 3, 8, .inr (.inl f_5))), (h0, .inr (7, [.ref a0, .ref a1, .ref a2, .ref a3, .ref a4, .int (-1), .int 0, .int 0, .int 0, .int 0, .int 0, .int 0, .long 0])), (r0, .inr (0, [.ref j0, .ref j1, .int 0]))] H := hP
    have hD : va_D A [(x0, .inr (10, [.ref t0, .ref p0, .ref n0, .ref m0, .ref s0, .ref r0, .ref k0, .ref h0, .ref w0, .ref e0, .ref g0])), (t0, .inr (8, [.ref t1, .int 0])), (t1, .inl (y 0, 700, .inl tf)), (p0, .inr (4, [.ref k1, .ref e0, .int 0, .int 256, .int 0, .int 0, .int pb, .int (-1)])), (k1, .inr (9, [.ref b0, .ref b1, .ref b2, .ref b3, .int 0, .int 0])), (g0, .inr (5, [.int 0, .int 0, .int 0, .int 0, .int 0, .int 0, .ref c0, .int 0, .ref c1, .ref c2, .ref c3, .ref c4, .ref c5])), (e0, .inr (5, [.int 0, .int 0, .int 0, .int 0, .int 0, .int 0, .ref d0, .int 0, .ref d1, .ref d2, .ref d3, .ref d4, .ref d5])), (n0, .inr (1, [.ref i0, .ref i1, .ref i2, .ref i3, .int 0, .int 0, .int 0])), (i0, .inl (y 3, 8, .inr (.inl f_5))), (h0, .inr (7, [.ref a0, .ref a1, .ref a2, .ref a3, .ref a4, .int (-1), .int 0, .int 0, .int 0, .int 0, .int 0, .int 0, .long 0])), (r0, .inr (0, [.ref j0, .ref j1, .int 0]))] := hD
    refine lv_aload_n hx hb dX11_program_77 rfl (lv_at hl 2 rfl) ?_
    refine va_get (D := D) (ci := 10) (v := .ref e0) (C := RX11) (T := TX11) (N := 11) hx hb hts inX11 hown hK hP 0 rfl rfl 9 (by decide) fl71 (fun _ h9 => h9) rfl dX11_program_78 ?_
    refine va_get (D := D) (ci := 5) (v := .int 0) (C := RX6) (T := TX6) (N := 13) hx hb hts inX6 hown hK hP 6 rfl rfl 3 (by decide) fl107 (fun _ h9 => h9) rfl dX11_program_81 ?_
    exact x_iret (v := 0) (u := f_5) hx hb hr rfl hP hD hK hS [0, 1, 2, 3, 4, 5, 6, 7, 8, 9, 10] rfl (by decide) dX11_program_84 hlocks hQ
  · exact absurd c_4 (by decide)

def v_c_has0 : List Cond := .code yX11_has cX11_has 2 (some .int) :: ([.fieldLink RX11 71 "SlopeRunner" "current" "LSlopeRunner$Program;", .fieldLink RX11 97 "SlopeRunner$Program" "inputs" "I", .fieldLink RX11 116 "SlopeRunner$Program" "rows" "I", .fieldLink RX11 119 "SlopeRunner$Program" "vars" "I", .fieldLink RX11 107 "SlopeRunner$Program" "statements" "I", .fieldLink RX11 122 "SlopeRunner$Program" "numbers" "I"] ++ (wsX110 ++ wsX60))
set_option maxHeartbeats 4000000 in
set_option maxRecDepth 100000 in
theorem c_has0 (l : Launch) (D : va_G) (y : Nat → ClassId) (sz : Nat) (x0 t0 p0 n0 m0 s0 r0 k0 h0 w0 g0 e0 : Nat) (c0 c1 c2 c3 c4 c5 : Nat) (what : Int32) : Met l yX11_has v_c_has0 ({ frames := 0, cells := 0, slots := 0, locals := 0 } : Room) (va_Pc [.ref x0, .int what] (xPre D (xT y) [(x0, .inr (10, [.ref t0, .ref p0, .ref n0, .ref m0, .ref s0, .ref r0, .ref k0, .ref h0, .ref w0, .ref g0, .ref e0])), (g0, .inr (5, [.int 0, .int 0, .int 0, .int 0, .int 0, .int 0, .ref c0, .int 0, .ref c1, .ref c2, .ref c3, .ref c4, .ref c5]))] sz)) (va_Qi (fun (r : Int32) (_ : Unit) => (0 ≤ what.toInt ∧ what.toInt ≤ 4 ∧ r = 0) ∨ ((what.toInt < 0 ∨ 4 < what.toInt) ∧ r = -1)) (fun (u : Unit) => xB D (xT y) (va_A [(x0, .inr (10, [.ref t0, .ref p0, .ref n0, .ref m0, .ref s0, .ref r0, .ref k0, .ref h0, .ref w0, .ref g0, .ref e0])), (g0, .inr (5, [.int 0, .int 0, .int 0, .int 0, .int 0, .int 0, .ref c0, .int 0, .ref c1, .ref c2, .ref c3, .ref c4, .ref c5]))] sz) [(x0, .inr (10, [.ref t0, .ref p0, .ref n0, .ref m0, .ref s0, .ref r0, .ref k0, .ref h0, .ref w0, .ref g0, .ref e0])), (g0, .inr (5, [.int 0, .int 0, .int 0, .int 0, .int 0, .int 0, .ref c0, .int 0, .ref c1, .ref c2, .ref c3, .ref c4, .ref c5]))]) (va_A [(x0, .inr (10, [.ref t0, .ref p0, .ref n0, .ref m0, .ref s0, .ref r0, .ref k0, .ref h0, .ref w0, .ref g0, .ref e0])), (g0, .inr (5, [.int 0, .int 0, .int 0, .int 0, .int 0, .int 0, .ref c0, .int 0, .ref c1, .ref c2, .ref c3, .ref c4, .ref c5]))] sz)) 0 0 (va_A [(x0, .inr (10, [.ref t0, .ref p0, .ref n0, .ref m0, .ref s0, .ref r0, .ref k0, .ref h0, .ref w0, .ref g0, .ref e0])), (g0, .inr (5, [.int 0, .int 0, .int 0, .int 0, .int 0, .int 0, .ref c0, .int 0, .ref c1, .ref c2, .ref c3, .ref c4, .ref c5]))] sz) := by
  refine x_meti (cc := cX11_has) (maxL := 2) (by decide) rfl (Nat.le_of_ble_eq_true rfl) ?_
  intro p e s m below meth c A H locs Q hx hb hml hown hts hr hlocks hmn hA hP hK hD hS ls hl hQ
  have hl : lv_has ls 2 [(0, .ref x0), (1, .int what)] := hl
  have fl71 := hts (.fieldLink RX11 71 "SlopeRunner" "current" "LSlopeRunner$Program;") (by decide +kernel)
  have inX11 : ∀ w ∈ wsX110, w ∈ v_c_has0 := (fun w h => List.mem_cons_of_mem _ (List.mem_append_right _ (List.mem_append_left _ h)))
  have fl97 := hts (.fieldLink RX11 97 "SlopeRunner$Program" "inputs" "I") (by decide +kernel)
  have inX6 : ∀ w ∈ wsX60, w ∈ v_c_has0 := (fun w h => List.mem_cons_of_mem _ (List.mem_append_right _ (List.mem_append_right _ h)))
  have fl116 := hts (.fieldLink RX11 116 "SlopeRunner$Program" "rows" "I") (by decide +kernel)
  have fl119 := hts (.fieldLink RX11 119 "SlopeRunner$Program" "vars" "I") (by decide +kernel)
  have fl107 := hts (.fieldLink RX11 107 "SlopeRunner$Program" "statements" "I") (by decide +kernel)
  have fl122 := hts (.fieldLink RX11 122 "SlopeRunner$Program" "numbers" "I") (by decide +kernel)
  refine lv_iload_n hx hb dX11_has_0 rfl (lv_at hl 1 rfl) ?_
  rcases (show what = 0 ∨ what = 1 ∨ what = 2 ∨ what = 3 ∨ what = 4 ∨ (what.toInt < 0 ∨ 4 < what.toInt) by simp only [x_eq, Int32.reduceToInt]; omega) with rfl | rfl | rfl | rfl | rfl | g_1
  · refine lv_tableIn (tgt := 36) hx hb dX11_has_1 (by decide) (by decide) rfl (by decide) ?_
    refine lv_aload_n hx hb dX11_has_36 rfl (lv_at hl 0 rfl) ?_
    refine va_get (D := D) (ci := 10) (v := .ref g0) (C := RX11) (T := TX11) (N := 11) hx hb hts inX11 hown hK hP 0 rfl rfl 9 (by decide) fl71 (fun _ h9 => h9) rfl dX11_has_37 ?_
    refine va_get (D := D) (ci := 5) (v := .int 0) (C := RX6) (T := TX6) (N := 13) hx hb hts inX6 hown hK hP 1 rfl rfl 0 (by decide) fl97 (fun _ h9 => h9) rfl dX11_has_40 ?_
    exact x_iret (v := 0) (u := ()) hx hb hr (by first | exact Or.inl ⟨by decide, by decide, rfl⟩ | exact Or.inr ⟨by omega, rfl⟩) hP hD hK hS [0, 1] rfl (by decide) dX11_has_43 hlocks hQ
  · refine lv_tableIn (tgt := 44) hx hb dX11_has_1 (by decide) (by decide) rfl (by decide) ?_
    refine lv_aload_n hx hb dX11_has_44 rfl (lv_at hl 0 rfl) ?_
    refine va_get (D := D) (ci := 10) (v := .ref g0) (C := RX11) (T := TX11) (N := 11) hx hb hts inX11 hown hK hP 0 rfl rfl 9 (by decide) fl71 (fun _ h9 => h9) rfl dX11_has_45 ?_
    refine va_get (D := D) (ci := 5) (v := .int 0) (C := RX6) (T := TX6) (N := 13) hx hb hts inX6 hown hK hP 1 rfl rfl 1 (by decide) fl116 (fun _ h9 => h9) rfl dX11_has_48 ?_
    exact x_iret (v := 0) (u := ()) hx hb hr (by first | exact Or.inl ⟨by decide, by decide, rfl⟩ | exact Or.inr ⟨by omega, rfl⟩) hP hD hK hS [0, 1] rfl (by decide) dX11_has_51 hlocks hQ
  · refine lv_tableIn (tgt := 52) hx hb dX11_has_1 (by decide) (by decide) rfl (by decide) ?_
    refine lv_aload_n hx hb dX11_has_52 rfl (lv_at hl 0 rfl) ?_
    refine va_get (D := D) (ci := 10) (v := .ref g0) (C := RX11) (T := TX11) (N := 11) hx hb hts inX11 hown hK hP 0 rfl rfl 9 (by decide) fl71 (fun _ h9 => h9) rfl dX11_has_53 ?_
    refine va_get (D := D) (ci := 5) (v := .int 0) (C := RX6) (T := TX6) (N := 13) hx hb hts inX6 hown hK hP 1 rfl rfl 2 (by decide) fl119 (fun _ h9 => h9) rfl dX11_has_56 ?_
    exact x_iret (v := 0) (u := ()) hx hb hr (by first | exact Or.inl ⟨by decide, by decide, rfl⟩ | exact Or.inr ⟨by omega, rfl⟩) hP hD hK hS [0, 1] rfl (by decide) dX11_has_59 hlocks hQ
  · refine lv_tableIn (tgt := 60) hx hb dX11_has_1 (by decide) (by decide) rfl (by decide) ?_
    refine lv_aload_n hx hb dX11_has_60 rfl (lv_at hl 0 rfl) ?_
    refine va_get (D := D) (ci := 10) (v := .ref g0) (C := RX11) (T := TX11) (N := 11) hx hb hts inX11 hown hK hP 0 rfl rfl 9 (by decide) fl71 (fun _ h9 => h9) rfl dX11_has_61 ?_
    refine va_get (D := D) (ci := 5) (v := .int 0) (C := RX6) (T := TX6) (N := 13) hx hb hts inX6 hown hK hP 1 rfl rfl 3 (by decide) fl107 (fun _ h9 => h9) rfl dX11_has_64 ?_
    exact x_iret (v := 0) (u := ()) hx hb hr (by first | exact Or.inl ⟨by decide, by decide, rfl⟩ | exact Or.inr ⟨by omega, rfl⟩) hP hD hK hS [0, 1] rfl (by decide) dX11_has_67 hlocks hQ
  · refine lv_tableIn (tgt := 68) hx hb dX11_has_1 (by decide) (by decide) rfl (by decide) ?_
    refine lv_aload_n hx hb dX11_has_68 rfl (lv_at hl 0 rfl) ?_
    refine va_get (D := D) (ci := 10) (v := .ref g0) (C := RX11) (T := TX11) (N := 11) hx hb hts inX11 hown hK hP 0 rfl rfl 9 (by decide) fl71 (fun _ h9 => h9) rfl dX11_has_69 ?_
    refine va_get (D := D) (ci := 5) (v := .int 0) (C := RX6) (T := TX6) (N := 13) hx hb hts inX6 hown hK hP 1 rfl rfl 4 (by decide) fl122 (fun _ h9 => h9) rfl dX11_has_72 ?_
    exact x_iret (v := 0) (u := ()) hx hb hr (by first | exact Or.inl ⟨by decide, by decide, rfl⟩ | exact Or.inr ⟨by omega, rfl⟩) hP hD hK hS [0, 1] rfl (by decide) dX11_has_75 hlocks hQ
  · refine lv_tableOut (tgt := 76) hx hb dX11_has_1 g_1 (by decide) ?_
    refine lv_iconst (v := (-1)) hx hb dX11_has_76 (by decide) ?_
    exact x_iret (v := (-1)) (u := ()) hx hb hr (by first | exact Or.inl ⟨by decide, by decide, rfl⟩ | exact Or.inr ⟨by omega, rfl⟩) hP hD hK hS [0, 1] rfl (by decide) dX11_has_77 hlocks hQ

def v_c_put0 : List Cond := .code yX11_put cX11_put 4 (some .boolean) :: ([.fieldLink RX11 26 "SlopeRunner" "inputs" "LSlopeRunner$Inputs;"] ++ ((wsV RX11 125 RX2 yX2_holds v_c_Inputs_holds) ++ wsX110))
theorem g_c_put0_0 : GoodIn v_c_put0 (wsV RX11 125 RX2 yX2_holds v_c_Inputs_holds) := goodIn_sub (fun w h => List.mem_cons_of_mem _ (List.mem_append_right _ (List.mem_append_left _ h))) (by decide +kernel)
set_option maxHeartbeats 4000000 in
set_option maxRecDepth 100000 in
theorem c_put0 (l : Launch) (D : va_G) (y : Nat → ClassId) (sz : Nat) (x0 t0 p0 n0 m0 s0 r0 k0 h0 w0 g0 e0 : Nat) (i0 i1 i2 i3 : Nat) (k ab be : Int32) : Met l yX11_put v_c_put0 ({ frames := 1, cells := 0, slots := 0, locals := 21 } : Room) (va_Pc [.ref x0, .int k, .int ab, .int be] (xPre D (xT y) [(x0, .inr (10, [.ref t0, .ref p0, .ref n0, .ref m0, .ref s0, .ref r0, .ref k0, .ref h0, .ref w0, .ref g0, .ref e0])), (n0, .inr (1, [.ref i0, .ref i1, .ref i2, .ref i3, .int 0, .int 0, .int 0]))] sz)) (va_Qi (fun (r : Int32) (_ : Unit) => r = 0) (fun (u : Unit) => xB D (xT y) (va_A [(x0, .inr (10, [.ref t0, .ref p0, .ref n0, .ref m0, .ref s0, .ref r0, .ref k0, .ref h0, .ref w0, .ref g0, .ref e0])), (n0, .inr (1, [.ref i0, .ref i1, .ref i2, .ref i3, .int 0, .int 0, .int 0]))] sz) [(x0, .inr (10, [.ref t0, .ref p0, .ref n0, .ref m0, .ref s0, .ref r0, .ref k0, .ref h0, .ref w0, .ref g0, .ref e0])), (n0, .inr (1, [.ref i0, .ref i1, .ref i2, .ref i3, .int 0, .int 0, .int 0]))]) (va_A [(x0, .inr (10, [.ref t0, .ref p0, .ref n0, .ref m0, .ref s0, .ref r0, .ref k0, .ref h0, .ref w0, .ref g0, .ref e0])), (n0, .inr (1, [.ref i0, .ref i1, .ref i2, .ref i3, .int 0, .int 0, .int 0]))] sz)) 0 0 (va_A [(x0, .inr (10, [.ref t0, .ref p0, .ref n0, .ref m0, .ref s0, .ref r0, .ref k0, .ref h0, .ref w0, .ref g0, .ref e0])), (n0, .inr (1, [.ref i0, .ref i1, .ref i2, .ref i3, .int 0, .int 0, .int 0]))] sz) := by
  refine x_meti (cc := cX11_put) (maxL := 4) (by decide) rfl (Nat.le_of_ble_eq_true rfl) ?_
  intro p e s m below meth c A H locs Q hx hb hml hown hts hr hlocks hmn hA hP hK hD hS ls hl hQ
  have hl : lv_has ls 4 [(0, .ref x0), (1, .int k), (2, .int ab), (3, .int be)] := hl
  have fl26 := hts (.fieldLink RX11 26 "SlopeRunner" "inputs" "LSlopeRunner$Inputs;") (by decide +kernel)
  have inX11 : ∀ w ∈ wsX110, w ∈ v_c_put0 := (fun w h => List.mem_cons_of_mem _ (List.mem_append_right _ (List.mem_append_right _ h)))
  refine lv_aload_n hx hb dX11_put_0 rfl (lv_at hl 0 rfl) ?_
  refine va_get (D := D) (ci := 10) (v := .ref n0) (C := RX11) (T := TX11) (N := 11) hx hb hts inX11 hown hK hP 0 rfl rfl 2 (by decide) fl26 (fun _ h9 => h9) rfl dX11_put_1 ?_
  refine lv_iload_n hx hb dX11_put_4 rfl (lv_at hl 1 rfl) ?_
  refine x_calli (w1 := fun (u : Unit) => [(n0, .inr (1, [.ref i0, .ref i1, .ref i2, .ref i3, .int 0, .int 0, .int 0]))]) (wr := [(x0, .inr (10, [.ref t0, .ref p0, .ref n0, .ref m0, .ref s0, .ref r0, .ref k0, .ref h0, .ref w0, .ref g0, .ref e0]))]) (ws' := fun (u : Unit) => [(x0, .inr (10, [.ref t0, .ref p0, .ref n0, .ref m0, .ref s0, .ref r0, .ref k0, .ref h0, .ref w0, .ref g0, .ref e0])), (n0, .inr (1, [.ref i0, .ref i1, .ref i2, .ref i3, .int 0, .int 0, .int 0]))]) (va_runV (As := [.int k]) (rest := []) ⟨hx, hb, hml, hown, hts⟩ (c_Inputs_holds l D y H.size n0 i0 i1 i2 i3 0 0 0 k) (cwV 1 hts g_c_put0_0 rfl rfl rfl (by decide +kernel) ⟨Nat.le_of_ble_eq_true rfl, Nat.le_of_ble_eq_true rfl⟩) (x_preV (q := (RX2, TX2, 7)) hK (x_subP hP [1] rfl) (x_subD hD [1] rfl (by decide)) (ci := 1) (q0 := 0) rfl rfl) rfl rfl hl.1 rfl (lv_room (Nat.le_of_ble_eq_true rfl)) dX11_put_5 ⟨Nat.le_of_ble_eq_true rfl, Nat.le_of_ble_eq_true rfl⟩) hP hD hS hA [1] [0] rfl rfl (by decide) (by decide) [0, 1] (fun _ => rfl) (by decide) (fun r_1 u H locs hw hP hD hS => ?_)
  try dsimp only at hw
  have hP : va_P D vwCl [(x0, .inr (10, [.ref t0, .ref p0, .ref n0, .ref m0, .ref s0, .ref r0, .ref k0, .ref h0, .ref w0, .ref g0, .ref e0])), (n0, .inr (1, [.ref i0, .ref i1, .ref i2, .ref i3, .int 0, .int 0, .int 0]))] H := hP
  have hD : va_D A [(x0, .inr (10, [.ref t0, .ref p0, .ref n0, .ref m0, .ref s0, .ref r0, .ref k0, .ref h0, .ref w0, .ref g0, .ref e0])), (n0, .inr (1, [.ref i0, .ref i1, .ref i2, .ref i3, .int 0, .int 0, .int 0]))] := hD
  rcases hw with ⟨rfl, g_2⟩ | ⟨rfl, g_2⟩
  · exact absurd g_2 (by (try dsimp only); (try simp only [lg_cmp_lt, lg_cmp_le, lg_cmp_gt, lg_cmp_ge] at *); (try simp only [x_lt, x_le, Int32.reduceToInt, x_ltL, x_leL, Int64.reduceToInt] at *); omega)
  · refine lv_if_eq (tgt := 19) hx hb dX11_put_8 (by decide) (fun c_3 => ?_) (fun c_3 => ?_)
    · refine lv_iconst (v := 0) hx hb dX11_put_19 (by decide) ?_
      exact x_zret (v := 0) (u := ()) hx hb hr rfl rfl hP hD hK hS [0, 1] rfl (by decide) dX11_put_20 hlocks hQ
    · exact absurd (by decide) c_3

def v_c_undo0 : List Cond := .code yX11_undo cX11_undo 1 (some .boolean) :: ([.fieldLink RX11 26 "SlopeRunner" "inputs" "LSlopeRunner$Inputs;"] ++ ((wsV RX11 142 RX2 yX2_stepBack v_c_Inputs_stepBack0) ++ wsX110))
theorem g_c_undo0_0 : GoodIn v_c_undo0 (wsV RX11 142 RX2 yX2_stepBack v_c_Inputs_stepBack0) := goodIn_sub (fun w h => List.mem_cons_of_mem _ (List.mem_append_right _ (List.mem_append_left _ h))) (by decide +kernel)
set_option maxHeartbeats 4000000 in
set_option maxRecDepth 100000 in
theorem c_undo0 (l : Launch) (D : va_G) (y : Nat → ClassId) (sz : Nat) (x0 t0 p0 n0 m0 s0 r0 k0 h0 w0 g0 e0 : Nat) (i0 i1 i2 i3 : Nat) : Met l yX11_undo v_c_undo0 ({ frames := 1, cells := 0, slots := 0, locals := 20 } : Room) (va_Pc [.ref x0] (xPre D (xT y) [(x0, .inr (10, [.ref t0, .ref p0, .ref n0, .ref m0, .ref s0, .ref r0, .ref k0, .ref h0, .ref w0, .ref g0, .ref e0])), (n0, .inr (1, [.ref i0, .ref i1, .ref i2, .ref i3, .int 0, .int 0, .int 0]))] sz)) (va_Qi (fun (r : Int32) (_ : Unit) => r = 0) (fun (u : Unit) => xB D (xT y) (va_A [(x0, .inr (10, [.ref t0, .ref p0, .ref n0, .ref m0, .ref s0, .ref r0, .ref k0, .ref h0, .ref w0, .ref g0, .ref e0])), (n0, .inr (1, [.ref i0, .ref i1, .ref i2, .ref i3, .int 0, .int 0, .int 0]))] sz) [(x0, .inr (10, [.ref t0, .ref p0, .ref n0, .ref m0, .ref s0, .ref r0, .ref k0, .ref h0, .ref w0, .ref g0, .ref e0])), (n0, .inr (1, [.ref i0, .ref i1, .ref i2, .ref i3, .int 0, .int 0, .int 0]))]) (va_A [(x0, .inr (10, [.ref t0, .ref p0, .ref n0, .ref m0, .ref s0, .ref r0, .ref k0, .ref h0, .ref w0, .ref g0, .ref e0])), (n0, .inr (1, [.ref i0, .ref i1, .ref i2, .ref i3, .int 0, .int 0, .int 0]))] sz)) 0 0 (va_A [(x0, .inr (10, [.ref t0, .ref p0, .ref n0, .ref m0, .ref s0, .ref r0, .ref k0, .ref h0, .ref w0, .ref g0, .ref e0])), (n0, .inr (1, [.ref i0, .ref i1, .ref i2, .ref i3, .int 0, .int 0, .int 0]))] sz) := by
  refine x_meti (cc := cX11_undo) (maxL := 1) (by decide) rfl (Nat.le_of_ble_eq_true rfl) ?_
  intro p e s m below meth c A H locs Q hx hb hml hown hts hr hlocks hmn hA hP hK hD hS ls hl hQ
  have hl : lv_has ls 1 [(0, .ref x0)] := hl
  have fl26 := hts (.fieldLink RX11 26 "SlopeRunner" "inputs" "LSlopeRunner$Inputs;") (by decide +kernel)
  have inX11 : ∀ w ∈ wsX110, w ∈ v_c_undo0 := (fun w h => List.mem_cons_of_mem _ (List.mem_append_right _ (List.mem_append_right _ h)))
  refine lv_aload_n hx hb dX11_undo_0 rfl (lv_at hl 0 rfl) ?_
  refine va_get (D := D) (ci := 10) (v := .ref n0) (C := RX11) (T := TX11) (N := 11) hx hb hts inX11 hown hK hP 0 rfl rfl 2 (by decide) fl26 (fun _ h9 => h9) rfl dX11_undo_1 ?_
  refine x_calli (w1 := fun (u : Unit) => [(n0, .inr (1, [.ref i0, .ref i1, .ref i2, .ref i3, .int 0, .int 0, .int 0]))]) (wr := [(x0, .inr (10, [.ref t0, .ref p0, .ref n0, .ref m0, .ref s0, .ref r0, .ref k0, .ref h0, .ref w0, .ref g0, .ref e0]))]) (ws' := fun (u : Unit) => [(x0, .inr (10, [.ref t0, .ref p0, .ref n0, .ref m0, .ref s0, .ref r0, .ref k0, .ref h0, .ref w0, .ref g0, .ref e0])), (n0, .inr (1, [.ref i0, .ref i1, .ref i2, .ref i3, .int 0, .int 0, .int 0]))]) (va_runV (As := []) (rest := []) ⟨hx, hb, hml, hown, hts⟩ (c_Inputs_stepBack0 l D y H.size n0 i0 i1 i2 i3 0 0) (cwV 0 hts g_c_undo0_0 rfl rfl rfl (by decide +kernel) ⟨Nat.le_of_ble_eq_true rfl, Nat.le_of_ble_eq_true rfl⟩) (x_preV (q := (RX2, TX2, 7)) hK (x_subP hP [1] rfl) (x_subD hD [1] rfl (by decide)) (ci := 1) (q0 := 0) rfl rfl) rfl rfl hl.1 rfl (lv_room (Nat.le_of_ble_eq_true rfl)) dX11_undo_4 ⟨Nat.le_of_ble_eq_true rfl, Nat.le_of_ble_eq_true rfl⟩) hP hD hS hA [1] [0] rfl rfl (by decide) (by decide) [0, 1] (fun _ => rfl) (by decide) (fun r_1 u H locs hw hP hD hS => ?_)
  try dsimp only at hw
  obtain rfl : r_1 = 0 := hw
  have hP : va_P D vwCl [(x0, .inr (10, [.ref t0, .ref p0, .ref n0, .ref m0, .ref s0, .ref r0, .ref k0, .ref h0, .ref w0, .ref g0, .ref e0])), (n0, .inr (1, [.ref i0, .ref i1, .ref i2, .ref i3, .int 0, .int 0, .int 0]))] H := hP
  have hD : va_D A [(x0, .inr (10, [.ref t0, .ref p0, .ref n0, .ref m0, .ref s0, .ref r0, .ref k0, .ref h0, .ref w0, .ref g0, .ref e0])), (n0, .inr (1, [.ref i0, .ref i1, .ref i2, .ref i3, .int 0, .int 0, .int 0]))] := hD
  exact x_zret (v := 0) (u := ()) hx hb hr rfl rfl hP hD hK hS [0, 1] rfl (by decide) dX11_undo_7 hlocks hQ

def v_c_redo0 : List Cond := .code yX11_redo cX11_redo 1 (some .boolean) :: ([.fieldLink RX11 26 "SlopeRunner" "inputs" "LSlopeRunner$Inputs;"] ++ ((wsV RX11 146 RX2 yX2_stepOn v_c_Inputs_stepOn0) ++ wsX110))
theorem g_c_redo0_0 : GoodIn v_c_redo0 (wsV RX11 146 RX2 yX2_stepOn v_c_Inputs_stepOn0) := goodIn_sub (fun w h => List.mem_cons_of_mem _ (List.mem_append_right _ (List.mem_append_left _ h))) (by decide +kernel)
set_option maxHeartbeats 4000000 in
set_option maxRecDepth 100000 in
theorem c_redo0 (l : Launch) (D : va_G) (y : Nat → ClassId) (sz : Nat) (x0 t0 p0 n0 m0 s0 r0 k0 h0 w0 g0 e0 : Nat) (i0 i1 i2 i3 : Nat) : Met l yX11_redo v_c_redo0 ({ frames := 1, cells := 0, slots := 0, locals := 20 } : Room) (va_Pc [.ref x0] (xPre D (xT y) [(x0, .inr (10, [.ref t0, .ref p0, .ref n0, .ref m0, .ref s0, .ref r0, .ref k0, .ref h0, .ref w0, .ref g0, .ref e0])), (n0, .inr (1, [.ref i0, .ref i1, .ref i2, .ref i3, .int 0, .int 0, .int 0]))] sz)) (va_Qi (fun (r : Int32) (_ : Unit) => r = 0) (fun (u : Unit) => xB D (xT y) (va_A [(x0, .inr (10, [.ref t0, .ref p0, .ref n0, .ref m0, .ref s0, .ref r0, .ref k0, .ref h0, .ref w0, .ref g0, .ref e0])), (n0, .inr (1, [.ref i0, .ref i1, .ref i2, .ref i3, .int 0, .int 0, .int 0]))] sz) [(x0, .inr (10, [.ref t0, .ref p0, .ref n0, .ref m0, .ref s0, .ref r0, .ref k0, .ref h0, .ref w0, .ref g0, .ref e0])), (n0, .inr (1, [.ref i0, .ref i1, .ref i2, .ref i3, .int 0, .int 0, .int 0]))]) (va_A [(x0, .inr (10, [.ref t0, .ref p0, .ref n0, .ref m0, .ref s0, .ref r0, .ref k0, .ref h0, .ref w0, .ref g0, .ref e0])), (n0, .inr (1, [.ref i0, .ref i1, .ref i2, .ref i3, .int 0, .int 0, .int 0]))] sz)) 0 0 (va_A [(x0, .inr (10, [.ref t0, .ref p0, .ref n0, .ref m0, .ref s0, .ref r0, .ref k0, .ref h0, .ref w0, .ref g0, .ref e0])), (n0, .inr (1, [.ref i0, .ref i1, .ref i2, .ref i3, .int 0, .int 0, .int 0]))] sz) := by
  refine x_meti (cc := cX11_redo) (maxL := 1) (by decide) rfl (Nat.le_of_ble_eq_true rfl) ?_
  intro p e s m below meth c A H locs Q hx hb hml hown hts hr hlocks hmn hA hP hK hD hS ls hl hQ
  have hl : lv_has ls 1 [(0, .ref x0)] := hl
  have fl26 := hts (.fieldLink RX11 26 "SlopeRunner" "inputs" "LSlopeRunner$Inputs;") (by decide +kernel)
  have inX11 : ∀ w ∈ wsX110, w ∈ v_c_redo0 := (fun w h => List.mem_cons_of_mem _ (List.mem_append_right _ (List.mem_append_right _ h)))
  refine lv_aload_n hx hb dX11_redo_0 rfl (lv_at hl 0 rfl) ?_
  refine va_get (D := D) (ci := 10) (v := .ref n0) (C := RX11) (T := TX11) (N := 11) hx hb hts inX11 hown hK hP 0 rfl rfl 2 (by decide) fl26 (fun _ h9 => h9) rfl dX11_redo_1 ?_
  refine x_calli (w1 := fun (u : Unit) => [(n0, .inr (1, [.ref i0, .ref i1, .ref i2, .ref i3, .int 0, .int 0, .int 0]))]) (wr := [(x0, .inr (10, [.ref t0, .ref p0, .ref n0, .ref m0, .ref s0, .ref r0, .ref k0, .ref h0, .ref w0, .ref g0, .ref e0]))]) (ws' := fun (u : Unit) => [(x0, .inr (10, [.ref t0, .ref p0, .ref n0, .ref m0, .ref s0, .ref r0, .ref k0, .ref h0, .ref w0, .ref g0, .ref e0])), (n0, .inr (1, [.ref i0, .ref i1, .ref i2, .ref i3, .int 0, .int 0, .int 0]))]) (va_runV (As := []) (rest := []) ⟨hx, hb, hml, hown, hts⟩ (c_Inputs_stepOn0 l D y H.size n0 i0 i1 i2 i3 0) (cwV 0 hts g_c_redo0_0 rfl rfl rfl (by decide +kernel) ⟨Nat.le_of_ble_eq_true rfl, Nat.le_of_ble_eq_true rfl⟩) (x_preV (q := (RX2, TX2, 7)) hK (x_subP hP [1] rfl) (x_subD hD [1] rfl (by decide)) (ci := 1) (q0 := 0) rfl rfl) rfl rfl hl.1 rfl (lv_room (Nat.le_of_ble_eq_true rfl)) dX11_redo_4 ⟨Nat.le_of_ble_eq_true rfl, Nat.le_of_ble_eq_true rfl⟩) hP hD hS hA [1] [0] rfl rfl (by decide) (by decide) [0, 1] (fun _ => rfl) (by decide) (fun r_1 u H locs hw hP hD hS => ?_)
  try dsimp only at hw
  obtain rfl : r_1 = 0 := hw
  have hP : va_P D vwCl [(x0, .inr (10, [.ref t0, .ref p0, .ref n0, .ref m0, .ref s0, .ref r0, .ref k0, .ref h0, .ref w0, .ref g0, .ref e0])), (n0, .inr (1, [.ref i0, .ref i1, .ref i2, .ref i3, .int 0, .int 0, .int 0]))] H := hP
  have hD : va_D A [(x0, .inr (10, [.ref t0, .ref p0, .ref n0, .ref m0, .ref s0, .ref r0, .ref k0, .ref h0, .ref w0, .ref g0, .ref e0])), (n0, .inr (1, [.ref i0, .ref i1, .ref i2, .ref i3, .int 0, .int 0, .int 0]))] := hD
  exact x_zret (v := 0) (u := ()) hx hb hr rfl rfl hP hD hK hS [0, 1] rfl (by decide) dX11_redo_7 hlocks hQ

def v_c_answer0 : List Cond := .code yX11_answer cX11_answer 3 (some .long) :: [.constantLong RX11 192 (-2000000000)]
set_option maxHeartbeats 4000000 in
set_option maxRecDepth 100000 in
theorem c_answer0 (l : Launch) (D : va_G) (y : Nat → ClassId) (sz : Nat) (b : Int32) : Met l yX11_answer v_c_answer0 ({ frames := 0, cells := 0, slots := 0, locals := 0 } : Room) (va_Pc [.long 0, .int b] (xPre D (xT y) [] sz)) (va_Ql (fun (r : Int64) (_ : Unit) => r = -2000000000) (fun (u : Unit) => xB D (xT y) (va_A [] sz) []) (va_A [] sz)) 0 0 (va_A [] sz) := by
  refine x_metl (cc := cX11_answer) (maxL := 3) (by decide) rfl (Nat.le_of_ble_eq_true rfl) ?_
  intro p e s m below meth c A H locs Q hx hb hml hown hts hr hlocks hmn hA hP hK hD hS ls hl hQ
  have hl : lv_has ls 3 [(0, .long 0), (2, .int b)] := hl
  refine lv_lload_n hx hb dX11_answer_0 rfl (lv_at hl 0 rfl) ?_
  refine lv_lconst (v := 0) hx hb dX11_answer_1 (by decide) ?_
  refine W.lcmp hx hb dX11_answer_2 ?_
  refine lv_if_ne (tgt := 10) hx hb dX11_answer_3 (by decide) (fun c_1 => ?_) (fun c_1 => ?_)
  · exact absurd ((lg_cmp_eq 0 0).mpr rfl) c_1
  · refine lv_ldc2 (v := (-2000000000)) hx hb hown (hts (.constantLong RX11 192 (-2000000000)) (by decide +kernel)) dX11_answer_6 ?_
    exact x_lret (v := (-2000000000)) (u := ()) hx hb hr rfl hP hD hK hS [] rfl (by decide) dX11_answer_9 hlocks hQ

def v_c_input0 : List Cond := .code yX11_input cX11_input 3 (some .long) :: ([.fieldLink RX11 26 "SlopeRunner" "inputs" "LSlopeRunner$Inputs;"] ++ ((wsV RX11 149 RX2 yX2_valueOf v_c_Inputs_valueOf) ++ ((wsS RX11 153 yX11_answer v_c_answer0) ++ wsX110)))
theorem g_c_input0_0 : GoodIn v_c_input0 (wsV RX11 149 RX2 yX2_valueOf v_c_Inputs_valueOf) := goodIn_sub (fun w h => List.mem_cons_of_mem _ (List.mem_append_right _ (List.mem_append_left _ h))) (by decide +kernel)
theorem g_c_input0_1 : GoodIn v_c_input0 (wsS RX11 153 yX11_answer v_c_answer0) := goodIn_sub (fun w h => List.mem_cons_of_mem _ (List.mem_append_right _ (List.mem_append_right _ (List.mem_append_left _ h)))) (by decide +kernel)
set_option maxHeartbeats 4000000 in
set_option maxRecDepth 100000 in
theorem c_input0 (l : Launch) (D : va_G) (y : Nat → ClassId) (sz : Nat) (x0 t0 p0 n0 m0 s0 r0 k0 h0 w0 g0 e0 : Nat) (i0 i1 i2 i3 : Nat) (fv : Nat → Int64) (k b : Int32) : Met l yX11_input v_c_input0 ({ frames := 2, cells := 0, slots := 0, locals := 43 } : Room) (va_Pc [.ref x0, .int k, .int b] (xPre D (xT y) [(x0, .inr (10, [.ref t0, .ref p0, .ref n0, .ref m0, .ref s0, .ref r0, .ref k0, .ref h0, .ref w0, .ref g0, .ref e0])), (n0, .inr (1, [.ref i0, .ref i1, .ref i2, .ref i3, .int 0, .int 0, .int 0])), (i0, .inl (y 3, 8, .inr (.inl fv)))] sz)) (va_Ql (fun (r : Int64) (_ : Unit) => r = -2000000000) (fun (u : Unit) => xB D (xT y) (va_A [(x0, .inr (10, [.ref t0, .ref p0, .ref n0, .ref m0, .ref s0, .ref r0, .ref k0, .ref h0, .ref w0, .ref g0, .ref e0])), (n0, .inr (1, [.ref i0, .ref i1, .ref i2, .ref i3, .int 0, .int 0, .int 0])), (i0, .inl (y 3, 8, .inr (.inl fv)))] sz) [(x0, .inr (10, [.ref t0, .ref p0, .ref n0, .ref m0, .ref s0, .ref r0, .ref k0, .ref h0, .ref w0, .ref g0, .ref e0])), (n0, .inr (1, [.ref i0, .ref i1, .ref i2, .ref i3, .int 0, .int 0, .int 0])), (i0, .inl (y 3, 8, .inr (.inl fv)))]) (va_A [(x0, .inr (10, [.ref t0, .ref p0, .ref n0, .ref m0, .ref s0, .ref r0, .ref k0, .ref h0, .ref w0, .ref g0, .ref e0])), (n0, .inr (1, [.ref i0, .ref i1, .ref i2, .ref i3, .int 0, .int 0, .int 0])), (i0, .inl (y 3, 8, .inr (.inl fv)))] sz)) 0 0 (va_A [(x0, .inr (10, [.ref t0, .ref p0, .ref n0, .ref m0, .ref s0, .ref r0, .ref k0, .ref h0, .ref w0, .ref g0, .ref e0])), (n0, .inr (1, [.ref i0, .ref i1, .ref i2, .ref i3, .int 0, .int 0, .int 0])), (i0, .inl (y 3, 8, .inr (.inl fv)))] sz) := by
  refine x_metl (cc := cX11_input) (maxL := 3) (by decide) rfl (Nat.le_of_ble_eq_true rfl) ?_
  intro p e s m below meth c A H locs Q hx hb hml hown hts hr hlocks hmn hA hP hK hD hS ls hl hQ
  have hl : lv_has ls 3 [(0, .ref x0), (1, .int k), (2, .int b)] := hl
  have fl26 := hts (.fieldLink RX11 26 "SlopeRunner" "inputs" "LSlopeRunner$Inputs;") (by decide +kernel)
  have inX11 : ∀ w ∈ wsX110, w ∈ v_c_input0 := (fun w h => List.mem_cons_of_mem _ (List.mem_append_right _ (List.mem_append_right _ (List.mem_append_right _ h))))
  refine lv_aload_n hx hb dX11_input_0 rfl (lv_at hl 0 rfl) ?_
  refine va_get (D := D) (ci := 10) (v := .ref n0) (C := RX11) (T := TX11) (N := 11) hx hb hts inX11 hown hK hP 0 rfl rfl 2 (by decide) fl26 (fun _ h9 => h9) rfl dX11_input_1 ?_
  refine lv_iload_n hx hb dX11_input_4 rfl (lv_at hl 1 rfl) ?_
  refine x_calll (w1 := fun (u : Unit) => [(n0, .inr (1, [.ref i0, .ref i1, .ref i2, .ref i3, .int 0, .int 0, .int 0])), (i0, .inl (y 3, 8, .inr (.inl fv)))]) (wr := [(x0, .inr (10, [.ref t0, .ref p0, .ref n0, .ref m0, .ref s0, .ref r0, .ref k0, .ref h0, .ref w0, .ref g0, .ref e0]))]) (ws' := fun (u : Unit) => [(x0, .inr (10, [.ref t0, .ref p0, .ref n0, .ref m0, .ref s0, .ref r0, .ref k0, .ref h0, .ref w0, .ref g0, .ref e0])), (n0, .inr (1, [.ref i0, .ref i1, .ref i2, .ref i3, .int 0, .int 0, .int 0])), (i0, .inl (y 3, 8, .inr (.inl fv)))]) (va_runV (As := [.int k]) (rest := []) ⟨hx, hb, hml, hown, hts⟩ (c_Inputs_valueOf l D y H.size n0 i0 i1 i2 i3 0 0 0 fv k (by decide)) (cwV 1 hts g_c_input0_0 rfl rfl rfl (by decide +kernel) ⟨Nat.le_of_ble_eq_true rfl, Nat.le_of_ble_eq_true rfl⟩) (x_preV (q := (RX2, TX2, 7)) hK (x_subP hP [1, 2] rfl) (x_subD hD [1, 2] rfl (by decide)) (ci := 1) (q0 := 0) rfl rfl) rfl rfl hl.1 rfl (lv_room (Nat.le_of_ble_eq_true rfl)) dX11_input_5 ⟨Nat.le_of_ble_eq_true rfl, Nat.le_of_ble_eq_true rfl⟩) hP hD hS hA [1, 2] [0] rfl rfl (by decide) (by decide) [0, 1, 2] (fun _ => rfl) (by decide) (fun r_1 u H locs hw hP hD hS => ?_)
  try dsimp only at hw
  have hP : va_P D vwCl [(x0, .inr (10, [.ref t0, .ref p0, .ref n0, .ref m0, .ref s0, .ref r0, .ref k0, .ref h0, .ref w0, .ref g0, .ref e0])), (n0, .inr (1, [.ref i0, .ref i1, .ref i2, .ref i3, .int 0, .int 0, .int 0])), (i0, .inl (y 3, 8, .inr (.inl fv)))] H := hP
  have hD : va_D A [(x0, .inr (10, [.ref t0, .ref p0, .ref n0, .ref m0, .ref s0, .ref r0, .ref k0, .ref h0, .ref w0, .ref g0, .ref e0])), (n0, .inr (1, [.ref i0, .ref i1, .ref i2, .ref i3, .int 0, .int 0, .int 0])), (i0, .inl (y 3, 8, .inr (.inl fv)))] := hD
  have hz : r_1 = 0 := by rcases hw with ⟨e0, e1, e2⟩ | ⟨e0, e1⟩; (exact absurd (And.intro e0 e1) (by (try dsimp only); (try simp only [lg_cmp_lt, lg_cmp_le, lg_cmp_gt, lg_cmp_ge] at *); (try simp only [x_lt, x_le, Int32.reduceToInt, x_ltL, x_leL, Int64.reduceToInt] at *); omega)); exact e1
  subst hz
  refine lv_iload_n hx hb dX11_input_8 rfl (lv_at hl 2 rfl) ?_
  refine x_calll (w1 := fun (u : Unit) => []) (wr := [(x0, .inr (10, [.ref t0, .ref p0, .ref n0, .ref m0, .ref s0, .ref r0, .ref k0, .ref h0, .ref w0, .ref g0, .ref e0])), (n0, .inr (1, [.ref i0, .ref i1, .ref i2, .ref i3, .int 0, .int 0, .int 0])), (i0, .inl (y 3, 8, .inr (.inl fv)))]) (ws' := fun (u : Unit) => [(x0, .inr (10, [.ref t0, .ref p0, .ref n0, .ref m0, .ref s0, .ref r0, .ref k0, .ref h0, .ref w0, .ref g0, .ref e0])), (n0, .inr (1, [.ref i0, .ref i1, .ref i2, .ref i3, .int 0, .int 0, .int 0])), (i0, .inl (y 3, 8, .inr (.inl fv)))]) (va_runS (As := [.long 0, .int b]) (rest := []) ⟨hx, hb, hml, hown, hts⟩ (c_answer0 l D y H.size b) (cwS 2 hts g_c_input0_1 rfl rfl rfl (by decide +kernel) ⟨Nat.le_of_ble_eq_true rfl, Nat.le_of_ble_eq_true rfl⟩) (x_preS hK (x_subP hP [] rfl) (x_subD hD [] rfl (by decide))) rfl rfl hl.1 rfl (lv_room (Nat.le_of_ble_eq_true rfl)) dX11_input_9 ⟨Nat.le_of_ble_eq_true rfl, Nat.le_of_ble_eq_true rfl⟩) hP hD hS hA [] [0, 1, 2] rfl rfl (by decide) (by decide) [0, 1, 2] (fun _ => rfl) (by decide) (fun r_2 u H locs hw hP hD hS => ?_)
  try dsimp only at hw
  have hP : va_P D vwCl [(x0, .inr (10, [.ref t0, .ref p0, .ref n0, .ref m0, .ref s0, .ref r0, .ref k0, .ref h0, .ref w0, .ref g0, .ref e0])), (n0, .inr (1, [.ref i0, .ref i1, .ref i2, .ref i3, .int 0, .int 0, .int 0])), (i0, .inl (y 3, 8, .inr (.inl fv)))] H := hP
  have hD : va_D A [(x0, .inr (10, [.ref t0, .ref p0, .ref n0, .ref m0, .ref s0, .ref r0, .ref k0, .ref h0, .ref w0, .ref g0, .ref e0])), (n0, .inr (1, [.ref i0, .ref i1, .ref i2, .ref i3, .int 0, .int 0, .int 0])), (i0, .inl (y 3, 8, .inr (.inl fv)))] := hD
  exact x_lret (v := r_2) (u := ()) hx hb hr hw hP hD hK hS [0, 1, 2] rfl (by decide) dX11_input_12 hlocks hQ

def v_c_run0 : List Cond := .code yX11_run cX11_run 1 (some .int) :: ([.fieldLink RX11 61 "SlopeRunner" "latest" "LSlopeRunner$Tape;", .fieldLink RX11 71 "SlopeRunner" "current" "LSlopeRunner$Program;", .fieldLink RX11 26 "SlopeRunner" "inputs" "LSlopeRunner$Inputs;", .fieldLink RX11 157 "SlopeRunner$Inputs" "value" "[J", .fieldLink RX11 33 "SlopeRunner" "machine" "LSlopeRunner$Machine;"] ++ ((wsV RX11 161 RX8 yX8_begin v_c_Tape_begin0) ++ ((wsV RX11 164 RX4 yX4_play v_c_Machine_play0) ++ (wsX110 ++ wsX20))))
theorem g_c_run0_0 : GoodIn v_c_run0 (wsV RX11 161 RX8 yX8_begin v_c_Tape_begin0) := goodIn_sub (fun w h => List.mem_cons_of_mem _ (List.mem_append_right _ (List.mem_append_left _ h))) (by decide +kernel)
theorem g_c_run0_1 : GoodIn v_c_run0 (wsV RX11 164 RX4 yX4_play v_c_Machine_play0) := goodIn_sub (fun w h => List.mem_cons_of_mem _ (List.mem_append_right _ (List.mem_append_right _ (List.mem_append_left _ h)))) (by decide +kernel)
set_option maxHeartbeats 4000000 in
set_option maxRecDepth 100000 in
theorem c_run0 (l : Launch) (D : va_G) (y : Nat → ClassId) (sz : Nat) (x0 t0 p0 n0 m0 s0 r0 k0 h0 w0 g0 e0 : Nat) (c0 c1 c2 c3 c4 c5 i0 i1 i2 i3 a0 a1 a2 a3 a4 e1 e2 : Nat) (st ni fs sz0 sp nr ed mt ma cnt dn kn : Int32) (nn : Int64) (fv : Nat → Int64) (fh : Nat → Int32) : Met l yX11_run v_c_run0 ({ frames := 2, cells := 0, slots := 0, locals := 46 } : Room) (va_Pc [.ref x0] (xPre D (xT y) [(x0, .inr (10, [.ref t0, .ref p0, .ref n0, .ref m0, .ref s0, .ref r0, .ref k0, .ref h0, .ref w0, .ref g0, .ref e0])), (g0, .inr (5, [.int 0, .int 0, .int 0, .int 0, .int 0, .int 0, .ref c0, .int 0, .ref c1, .ref c2, .ref c3, .ref c4, .ref c5])), (n0, .inr (1, [.ref i0, .ref i1, .ref i2, .ref i3, .int cnt, .int dn, .int kn])), (h0, .inr (7, [.ref a0, .ref a1, .ref a2, .ref a3, .ref a4, .int st, .int ni, .int fs, .int sz0, .int sp, .int nr, .int ed, .long nn])), (a0, .inl (y 3, 1359, .inr (.inl fv))), (m0, .inr (3, [.ref e1, .ref e2, .null, .null, .int mt, .int ma])), (e2, .inl (y 2, 84, .inl fh))] sz)) (va_Qi (fun (r : Int32) (_ : (Nat → Int64) × (Nat → Int32)) => r = 0) (fun (u : (Nat → Int64) × (Nat → Int32)) => xB D (xT y) (va_A [(x0, .inr (10, [.ref t0, .ref p0, .ref n0, .ref m0, .ref s0, .ref r0, .ref k0, .ref h0, .ref w0, .ref g0, .ref e0])), (g0, .inr (5, [.int 0, .int 0, .int 0, .int 0, .int 0, .int 0, .ref c0, .int 0, .ref c1, .ref c2, .ref c3, .ref c4, .ref c5])), (n0, .inr (1, [.ref i0, .ref i1, .ref i2, .ref i3, .int cnt, .int dn, .int kn])), (h0, .inr (7, [.ref a0, .ref a1, .ref a2, .ref a3, .ref a4, .int st, .int ni, .int fs, .int sz0, .int sp, .int nr, .int ed, .long nn])), (a0, .inl (y 3, 1359, .inr (.inl fv))), (m0, .inr (3, [.ref e1, .ref e2, .null, .null, .int mt, .int ma])), (e2, .inl (y 2, 84, .inl fh))] sz) [(x0, .inr (10, [.ref t0, .ref p0, .ref n0, .ref m0, .ref s0, .ref r0, .ref k0, .ref h0, .ref w0, .ref g0, .ref e0])), (g0, .inr (5, [.int 0, .int 0, .int 0, .int 0, .int 0, .int 0, .ref c0, .int 0, .ref c1, .ref c2, .ref c3, .ref c4, .ref c5])), (n0, .inr (1, [.ref i0, .ref i1, .ref i2, .ref i3, .int cnt, .int dn, .int kn])), (h0, .inr (7, [.ref a0, .ref a1, .ref a2, .ref a3, .ref a4, .int 0, .int 0, .int 1, .int 1, .int 0, .int 0, .int 0, .long 0])), (a0, .inl (y 3, 1359, .inr (.inl u.1))), (m0, .inr (3, [.ref e1, .ref e2, .ref g0, .ref h0, .int 0, .int 1])), (e2, .inl (y 2, 84, .inl u.2))]) (va_A [(x0, .inr (10, [.ref t0, .ref p0, .ref n0, .ref m0, .ref s0, .ref r0, .ref k0, .ref h0, .ref w0, .ref g0, .ref e0])), (g0, .inr (5, [.int 0, .int 0, .int 0, .int 0, .int 0, .int 0, .ref c0, .int 0, .ref c1, .ref c2, .ref c3, .ref c4, .ref c5])), (n0, .inr (1, [.ref i0, .ref i1, .ref i2, .ref i3, .int cnt, .int dn, .int kn])), (h0, .inr (7, [.ref a0, .ref a1, .ref a2, .ref a3, .ref a4, .int st, .int ni, .int fs, .int sz0, .int sp, .int nr, .int ed, .long nn])), (a0, .inl (y 3, 1359, .inr (.inl fv))), (m0, .inr (3, [.ref e1, .ref e2, .null, .null, .int mt, .int ma])), (e2, .inl (y 2, 84, .inl fh))] sz)) 0 0 (va_A [(x0, .inr (10, [.ref t0, .ref p0, .ref n0, .ref m0, .ref s0, .ref r0, .ref k0, .ref h0, .ref w0, .ref g0, .ref e0])), (g0, .inr (5, [.int 0, .int 0, .int 0, .int 0, .int 0, .int 0, .ref c0, .int 0, .ref c1, .ref c2, .ref c3, .ref c4, .ref c5])), (n0, .inr (1, [.ref i0, .ref i1, .ref i2, .ref i3, .int cnt, .int dn, .int kn])), (h0, .inr (7, [.ref a0, .ref a1, .ref a2, .ref a3, .ref a4, .int st, .int ni, .int fs, .int sz0, .int sp, .int nr, .int ed, .long nn])), (a0, .inl (y 3, 1359, .inr (.inl fv))), (m0, .inr (3, [.ref e1, .ref e2, .null, .null, .int mt, .int ma])), (e2, .inl (y 2, 84, .inl fh))] sz) := by
  refine x_meti (cc := cX11_run) (maxL := 1) (by decide) rfl (Nat.le_of_ble_eq_true rfl) ?_
  intro p e s m below meth c A H locs Q hx hb hml hown hts hr hlocks hmn hA hP hK hD hS ls hl hQ
  have hl : lv_has ls 1 [(0, .ref x0)] := hl
  have fl61 := hts (.fieldLink RX11 61 "SlopeRunner" "latest" "LSlopeRunner$Tape;") (by decide +kernel)
  have inX11 : ∀ w ∈ wsX110, w ∈ v_c_run0 := (fun w h => List.mem_cons_of_mem _ (List.mem_append_right _ (List.mem_append_right _ (List.mem_append_right _ (List.mem_append_left _ h)))))
  have fl71 := hts (.fieldLink RX11 71 "SlopeRunner" "current" "LSlopeRunner$Program;") (by decide +kernel)
  have fl26 := hts (.fieldLink RX11 26 "SlopeRunner" "inputs" "LSlopeRunner$Inputs;") (by decide +kernel)
  have fl157 := hts (.fieldLink RX11 157 "SlopeRunner$Inputs" "value" "[J") (by decide +kernel)
  have inX2 : ∀ w ∈ wsX20, w ∈ v_c_run0 := (fun w h => List.mem_cons_of_mem _ (List.mem_append_right _ (List.mem_append_right _ (List.mem_append_right _ (List.mem_append_right _ h)))))
  have fl33 := hts (.fieldLink RX11 33 "SlopeRunner" "machine" "LSlopeRunner$Machine;") (by decide +kernel)
  refine lv_aload_n hx hb dX11_run_0 rfl (lv_at hl 0 rfl) ?_
  refine va_get (D := D) (ci := 10) (v := .ref h0) (C := RX11) (T := TX11) (N := 11) hx hb hts inX11 hown hK hP 0 rfl rfl 7 (by decide) fl61 (fun _ h9 => h9) rfl dX11_run_1 ?_
  refine lv_aload_n hx hb dX11_run_4 rfl (lv_at hl 0 rfl) ?_
  refine va_get (D := D) (ci := 10) (v := .ref g0) (C := RX11) (T := TX11) (N := 11) hx hb hts inX11 hown hK hP 0 rfl rfl 9 (by decide) fl71 (fun _ h9 => h9) rfl dX11_run_5 ?_
  refine lv_aload_n hx hb dX11_run_8 rfl (lv_at hl 0 rfl) ?_
  refine va_get (D := D) (ci := 10) (v := .ref n0) (C := RX11) (T := TX11) (N := 11) hx hb hts inX11 hown hK hP 0 rfl rfl 2 (by decide) fl26 (fun _ h9 => h9) rfl dX11_run_9 ?_
  refine va_get (D := D) (ci := 1) (v := .ref i0) (C := RX2) (T := TX2) (N := 7) hx hb hts inX2 hown hK hP 2 rfl rfl 0 (by decide) fl157 (fun _ h9 => h9) rfl dX11_run_12 ?_
  refine x_callv (w1 := fun (u : Nat → Int64) => [(h0, .inr (7, [.ref a0, .ref a1, .ref a2, .ref a3, .ref a4, .int (-2), .int 0, .int 1, .int 1, .int 0, .int 0, .int 0, .long 0])), (a0, .inl (y 3, 1359, .inr (.inl u))), (g0, .inr (5, [.int 0, .int 0, .int 0, .int 0, .int 0, .int 0, .ref c0, .int 0, .ref c1, .ref c2, .ref c3, .ref c4, .ref c5]))]) (wr := [(x0, .inr (10, [.ref t0, .ref p0, .ref n0, .ref m0, .ref s0, .ref r0, .ref k0, .ref h0, .ref w0, .ref g0, .ref e0])), (n0, .inr (1, [.ref i0, .ref i1, .ref i2, .ref i3, .int cnt, .int dn, .int kn])), (m0, .inr (3, [.ref e1, .ref e2, .null, .null, .int mt, .int ma])), (e2, .inl (y 2, 84, .inl fh))]) (ws' := fun (u : Nat → Int64) => [(x0, .inr (10, [.ref t0, .ref p0, .ref n0, .ref m0, .ref s0, .ref r0, .ref k0, .ref h0, .ref w0, .ref g0, .ref e0])), (g0, .inr (5, [.int 0, .int 0, .int 0, .int 0, .int 0, .int 0, .ref c0, .int 0, .ref c1, .ref c2, .ref c3, .ref c4, .ref c5])), (n0, .inr (1, [.ref i0, .ref i1, .ref i2, .ref i3, .int cnt, .int dn, .int kn])), (h0, .inr (7, [.ref a0, .ref a1, .ref a2, .ref a3, .ref a4, .int (-2), .int 0, .int 1, .int 1, .int 0, .int 0, .int 0, .long 0])), (a0, .inl (y 3, 1359, .inr (.inl u))), (m0, .inr (3, [.ref e1, .ref e2, .null, .null, .int mt, .int ma])), (e2, .inl (y 2, 84, .inl fh))]) (va_runV (As := [.ref g0, .ref i0]) (rest := []) ⟨hx, hb, hml, hown, hts⟩ (c_Tape_begin0 l D y H.size h0 a0 a1 a2 a3 a4 g0 c0 c1 c2 c3 c4 c5 i0 st ni fs sz0 sp nr ed nn fv) (cwV 2 hts g_c_run0_0 rfl rfl rfl (by decide +kernel) ⟨Nat.le_of_ble_eq_true rfl, Nat.le_of_ble_eq_true rfl⟩) (x_preV (q := (RX8, TX8, 13)) hK (x_subP hP [3, 4, 1] rfl) (x_subD hD [3, 4, 1] rfl (by decide)) (ci := 7) (q0 := 0) rfl rfl) rfl rfl hl.1 rfl (lv_room (Nat.le_of_ble_eq_true rfl)) dX11_run_15 ⟨Nat.le_of_ble_eq_true rfl, Nat.le_of_ble_eq_true rfl⟩) hP hD hS hA [3, 4, 1] [0, 2, 5, 6] rfl rfl (by decide) (by decide) [0, 6, 1, 4, 5, 2, 3] (fun _ => rfl) (by decide) (fun u H locs hw hP hD hS => ?_)
  obtain ⟨f_1, rfl⟩ : ∃ z, z = u := ⟨_, rfl⟩
  try dsimp only at hw
  have hP : va_P D vwCl [(x0, .inr (10, [.ref t0, .ref p0, .ref n0, .ref m0, .ref s0, .ref r0, .ref k0, .ref h0, .ref w0, .ref g0, .ref e0])), (g0, .inr (5, [.int 0, .int 0, .int 0, .int 0, .int 0, .int 0, .ref c0, .int 0, .ref c1, .ref c2, .ref c3, .ref c4, .ref c5])), (n0, .inr (1, [.ref i0, .ref i1, .ref i2, .ref i3, .int cnt, .int dn, .int kn])), (h0, .inr (7, [.ref a0, .ref a1, .ref a2, .ref a3, .ref a4, .int (-2), .int 0, .int 1, .int 1, .int 0, .int 0, .int 0, .long 0])), (a0, .inl (y 3, 1359, .inr (.inl f_1))), (m0, .inr (3, [.ref e1, .ref e2, .null, .null, .int mt, .int ma])), (e2, .inl (y 2, 84, .inl fh))] H := hP
  have hD : va_D A [(x0, .inr (10, [.ref t0, .ref p0, .ref n0, .ref m0, .ref s0, .ref r0, .ref k0, .ref h0, .ref w0, .ref g0, .ref e0])), (g0, .inr (5, [.int 0, .int 0, .int 0, .int 0, .int 0, .int 0, .ref c0, .int 0, .ref c1, .ref c2, .ref c3, .ref c4, .ref c5])), (n0, .inr (1, [.ref i0, .ref i1, .ref i2, .ref i3, .int cnt, .int dn, .int kn])), (h0, .inr (7, [.ref a0, .ref a1, .ref a2, .ref a3, .ref a4, .int (-2), .int 0, .int 1, .int 1, .int 0, .int 0, .int 0, .long 0])), (a0, .inl (y 3, 1359, .inr (.inl f_1))), (m0, .inr (3, [.ref e1, .ref e2, .null, .null, .int mt, .int ma])), (e2, .inl (y 2, 84, .inl fh))] := hD
  refine lv_aload_n hx hb dX11_run_18 rfl (lv_at hl 0 rfl) ?_
  refine va_get (D := D) (ci := 10) (v := .ref m0) (C := RX11) (T := TX11) (N := 11) hx hb hts inX11 hown hK hP 0 rfl rfl 3 (by decide) fl33 (fun _ h9 => h9) rfl dX11_run_19 ?_
  refine lv_aload_n hx hb dX11_run_22 rfl (lv_at hl 0 rfl) ?_
  refine va_get (D := D) (ci := 10) (v := .ref g0) (C := RX11) (T := TX11) (N := 11) hx hb hts inX11 hown hK hP 0 rfl rfl 9 (by decide) fl71 (fun _ h9 => h9) rfl dX11_run_23 ?_
  refine lv_aload_n hx hb dX11_run_26 rfl (lv_at hl 0 rfl) ?_
  refine va_get (D := D) (ci := 10) (v := .ref h0) (C := RX11) (T := TX11) (N := 11) hx hb hts inX11 hown hK hP 0 rfl rfl 7 (by decide) fl61 (fun _ h9 => h9) rfl dX11_run_27 ?_
  refine x_calli (w1 := fun (u : Nat → Int32) => [(m0, .inr (3, [.ref e1, .ref e2, .ref g0, .ref h0, .int 0, .int 1])), (e2, .inl (y 2, 84, .inl u)), (h0, .inr (7, [.ref a0, .ref a1, .ref a2, .ref a3, .ref a4, .int 0, .int 0, .int 1, .int 1, .int 0, .int 0, .int 0, .long 0])), (g0, .inr (5, [.int 0, .int 0, .int 0, .int 0, .int 0, .int 0, .ref c0, .int 0, .ref c1, .ref c2, .ref c3, .ref c4, .ref c5]))]) (wr := [(x0, .inr (10, [.ref t0, .ref p0, .ref n0, .ref m0, .ref s0, .ref r0, .ref k0, .ref h0, .ref w0, .ref g0, .ref e0])), (n0, .inr (1, [.ref i0, .ref i1, .ref i2, .ref i3, .int cnt, .int dn, .int kn])), (a0, .inl (y 3, 1359, .inr (.inl f_1)))]) (ws' := fun (u : Nat → Int32) => [(x0, .inr (10, [.ref t0, .ref p0, .ref n0, .ref m0, .ref s0, .ref r0, .ref k0, .ref h0, .ref w0, .ref g0, .ref e0])), (g0, .inr (5, [.int 0, .int 0, .int 0, .int 0, .int 0, .int 0, .ref c0, .int 0, .ref c1, .ref c2, .ref c3, .ref c4, .ref c5])), (n0, .inr (1, [.ref i0, .ref i1, .ref i2, .ref i3, .int cnt, .int dn, .int kn])), (h0, .inr (7, [.ref a0, .ref a1, .ref a2, .ref a3, .ref a4, .int 0, .int 0, .int 1, .int 1, .int 0, .int 0, .int 0, .long 0])), (a0, .inl (y 3, 1359, .inr (.inl f_1))), (m0, .inr (3, [.ref e1, .ref e2, .ref g0, .ref h0, .int 0, .int 1])), (e2, .inl (y 2, 84, .inl u))]) (va_runV (As := [.ref g0, .ref h0]) (rest := []) ⟨hx, hb, hml, hown, hts⟩ (c_Machine_play0 l D y H.size m0 e1 e2 h0 a0 a1 a2 a3 a4 g0 c0 c1 c2 c3 c4 c5 mt ma 0 1 1 0 0 0 0 fh) (cwV 2 hts g_c_run0_1 rfl rfl rfl (by decide +kernel) ⟨Nat.le_of_ble_eq_true rfl, Nat.le_of_ble_eq_true rfl⟩) (x_preV (q := (RX4, TX4, 6)) hK (x_subP hP [5, 6, 3, 1] rfl) (x_subD hD [5, 6, 3, 1] rfl (by decide)) (ci := 3) (q0 := 0) rfl rfl) rfl rfl hl.1 rfl (lv_room (Nat.le_of_ble_eq_true rfl)) dX11_run_30 ⟨Nat.le_of_ble_eq_true rfl, Nat.le_of_ble_eq_true rfl⟩) hP hD hS hA [5, 6, 3, 1] [0, 2, 4] rfl rfl (by decide) (by decide) [0, 6, 1, 5, 2, 3, 4] (fun _ => rfl) (by decide) (fun r_2 u H locs hw hP hD hS => ?_)
  obtain ⟨f_3, rfl⟩ : ∃ z, z = u := ⟨_, rfl⟩
  try dsimp only at hw
  have hP : va_P D vwCl [(x0, .inr (10, [.ref t0, .ref p0, .ref n0, .ref m0, .ref s0, .ref r0, .ref k0, .ref h0, .ref w0, .ref g0, .ref e0])), (g0, .inr (5, [.int 0, .int 0, .int 0, .int 0, .int 0, .int 0, .ref c0, .int 0, .ref c1, .ref c2, .ref c3, .ref c4, .ref c5])), (n0, .inr (1, [.ref i0, .ref i1, .ref i2, .ref i3, .int cnt, .int dn, .int kn])), (h0, .inr (7, [.ref a0, .ref a1, .ref a2, .ref a3, .ref a4, .int 0, .int 0, .int 1, .int 1, .int 0, .int 0, .int 0, .long 0])), (a0, .inl (y 3, 1359, .inr (.inl f_1))), (m0, .inr (3, [.ref e1, .ref e2, .ref g0, .ref h0, .int 0, .int 1])), (e2, .inl (y 2, 84, .inl f_3))] H := hP
  have hD : va_D A [(x0, .inr (10, [.ref t0, .ref p0, .ref n0, .ref m0, .ref s0, .ref r0, .ref k0, .ref h0, .ref w0, .ref g0, .ref e0])), (g0, .inr (5, [.int 0, .int 0, .int 0, .int 0, .int 0, .int 0, .ref c0, .int 0, .ref c1, .ref c2, .ref c3, .ref c4, .ref c5])), (n0, .inr (1, [.ref i0, .ref i1, .ref i2, .ref i3, .int cnt, .int dn, .int kn])), (h0, .inr (7, [.ref a0, .ref a1, .ref a2, .ref a3, .ref a4, .int 0, .int 0, .int 1, .int 1, .int 0, .int 0, .int 0, .long 0])), (a0, .inl (y 3, 1359, .inr (.inl f_1))), (m0, .inr (3, [.ref e1, .ref e2, .ref g0, .ref h0, .int 0, .int 1])), (e2, .inl (y 2, 84, .inl f_3))] := hD
  exact x_iret (v := r_2) (u := (f_1, f_3)) hx hb hr hw hP hD hK hS [0, 1, 2, 3, 4, 5, 6] rfl (by decide) dX11_run_33 hlocks hQ

def v_c_ran0 : List Cond := .code yX11_ran cX11_ran 2 (some .int) :: ([.fieldLink RX11 61 "SlopeRunner" "latest" "LSlopeRunner$Tape;", .fieldLink RX11 168 "SlopeRunner$Tape" "state" "I"] ++ (wsX110 ++ wsX80))
set_option maxHeartbeats 4000000 in
set_option maxRecDepth 100000 in
theorem c_ran0 (l : Launch) (D : va_G) (y : Nat → ClassId) (sz : Nat) (x0 t0 p0 n0 m0 s0 r0 k0 h0 w0 g0 e0 : Nat) (a0 a1 a2 a3 a4 : Nat) (what : Int32) : Met l yX11_ran v_c_ran0 ({ frames := 0, cells := 0, slots := 0, locals := 0 } : Room) (va_Pc [.ref x0, .int what] (xPre D (xT y) [(x0, .inr (10, [.ref t0, .ref p0, .ref n0, .ref m0, .ref s0, .ref r0, .ref k0, .ref h0, .ref w0, .ref g0, .ref e0])), (h0, .inr (7, [.ref a0, .ref a1, .ref a2, .ref a3, .ref a4, .int (-1), .int 0, .int 0, .int 0, .int 0, .int 0, .int 0, .long 0]))] sz)) (va_Qi (fun (r : Int32) (_ : Unit) => r = -1) (fun (u : Unit) => xB D (xT y) (va_A [(x0, .inr (10, [.ref t0, .ref p0, .ref n0, .ref m0, .ref s0, .ref r0, .ref k0, .ref h0, .ref w0, .ref g0, .ref e0])), (h0, .inr (7, [.ref a0, .ref a1, .ref a2, .ref a3, .ref a4, .int (-1), .int 0, .int 0, .int 0, .int 0, .int 0, .int 0, .long 0]))] sz) [(x0, .inr (10, [.ref t0, .ref p0, .ref n0, .ref m0, .ref s0, .ref r0, .ref k0, .ref h0, .ref w0, .ref g0, .ref e0])), (h0, .inr (7, [.ref a0, .ref a1, .ref a2, .ref a3, .ref a4, .int (-1), .int 0, .int 0, .int 0, .int 0, .int 0, .int 0, .long 0]))]) (va_A [(x0, .inr (10, [.ref t0, .ref p0, .ref n0, .ref m0, .ref s0, .ref r0, .ref k0, .ref h0, .ref w0, .ref g0, .ref e0])), (h0, .inr (7, [.ref a0, .ref a1, .ref a2, .ref a3, .ref a4, .int (-1), .int 0, .int 0, .int 0, .int 0, .int 0, .int 0, .long 0]))] sz)) 0 0 (va_A [(x0, .inr (10, [.ref t0, .ref p0, .ref n0, .ref m0, .ref s0, .ref r0, .ref k0, .ref h0, .ref w0, .ref g0, .ref e0])), (h0, .inr (7, [.ref a0, .ref a1, .ref a2, .ref a3, .ref a4, .int (-1), .int 0, .int 0, .int 0, .int 0, .int 0, .int 0, .long 0]))] sz) := by
  refine x_meti (cc := cX11_ran) (maxL := 2) (by decide) rfl (Nat.le_of_ble_eq_true rfl) ?_
  intro p e s m below meth c A H locs Q hx hb hml hown hts hr hlocks hmn hA hP hK hD hS ls hl hQ
  have hl : lv_has ls 2 [(0, .ref x0), (1, .int what)] := hl
  have fl61 := hts (.fieldLink RX11 61 "SlopeRunner" "latest" "LSlopeRunner$Tape;") (by decide +kernel)
  have inX11 : ∀ w ∈ wsX110, w ∈ v_c_ran0 := (fun w h => List.mem_cons_of_mem _ (List.mem_append_right _ (List.mem_append_left _ h)))
  have fl168 := hts (.fieldLink RX11 168 "SlopeRunner$Tape" "state" "I") (by decide +kernel)
  have inX8 : ∀ w ∈ wsX80, w ∈ v_c_ran0 := (fun w h => List.mem_cons_of_mem _ (List.mem_append_right _ (List.mem_append_right _ h)))
  refine lv_aload_n hx hb dX11_ran_0 rfl (lv_at hl 0 rfl) ?_
  refine va_get (D := D) (ci := 10) (v := .ref h0) (C := RX11) (T := TX11) (N := 11) hx hb hts inX11 hown hK hP 0 rfl rfl 7 (by decide) fl61 (fun _ h9 => h9) rfl dX11_ran_1 ?_
  refine va_get (D := D) (ci := 7) (v := .int (-1)) (C := RX8) (T := TX8) (N := 13) hx hb hts inX8 hown hK hP 1 rfl rfl 5 (by decide) fl168 (fun _ h9 => h9) rfl dX11_ran_4 ?_
  refine lv_iconst (v := (-1)) hx hb dX11_ran_7 (by decide) ?_
  refine lv_icmp_ne (tgt := 13) hx hb dX11_ran_8 (by decide) (fun c_1 => ?_) (fun c_1 => ?_)
  · exact absurd (by decide) c_1
  · refine lv_iconst (v := (-1)) hx hb dX11_ran_11 (by decide) ?_
    exact x_iret (v := (-1)) (u := ()) hx hb hr rfl hP hD hK hS [0, 1] rfl (by decide) dX11_ran_12 hlocks hQ

def v_c_result0 : List Cond := .code yX11_result cX11_result 3 (some .long) :: ([.fieldLink RX11 61 "SlopeRunner" "latest" "LSlopeRunner$Tape;"] ++ ((wsV RX11 182 RX8 yX8_resultValue v_c_Tape_resultValue0) ++ ((wsS RX11 153 yX11_answer v_c_answer0) ++ wsX110)))
theorem g_c_result0_0 : GoodIn v_c_result0 (wsV RX11 182 RX8 yX8_resultValue v_c_Tape_resultValue0) := goodIn_sub (fun w h => List.mem_cons_of_mem _ (List.mem_append_right _ (List.mem_append_left _ h))) (by decide +kernel)
theorem g_c_result0_1 : GoodIn v_c_result0 (wsS RX11 153 yX11_answer v_c_answer0) := goodIn_sub (fun w h => List.mem_cons_of_mem _ (List.mem_append_right _ (List.mem_append_right _ (List.mem_append_left _ h)))) (by decide +kernel)
set_option maxHeartbeats 4000000 in
set_option maxRecDepth 100000 in
theorem c_result0 (l : Launch) (D : va_G) (y : Nat → ClassId) (sz : Nat) (x0 t0 p0 n0 m0 s0 r0 k0 h0 w0 g0 e0 : Nat) (a0 a1 a2 a3 a4 : Nat) (k b : Int32) : Met l yX11_result v_c_result0 ({ frames := 2, cells := 0, slots := 0, locals := 43 } : Room) (va_Pc [.ref x0, .int k, .int b] (xPre D (xT y) [(x0, .inr (10, [.ref t0, .ref p0, .ref n0, .ref m0, .ref s0, .ref r0, .ref k0, .ref h0, .ref w0, .ref g0, .ref e0])), (h0, .inr (7, [.ref a0, .ref a1, .ref a2, .ref a3, .ref a4, .int (-1), .int 0, .int 0, .int 0, .int 0, .int 0, .int 0, .long 0]))] sz)) (va_Ql (fun (r : Int64) (_ : Unit) => r = -2000000000) (fun (u : Unit) => xB D (xT y) (va_A [(x0, .inr (10, [.ref t0, .ref p0, .ref n0, .ref m0, .ref s0, .ref r0, .ref k0, .ref h0, .ref w0, .ref g0, .ref e0])), (h0, .inr (7, [.ref a0, .ref a1, .ref a2, .ref a3, .ref a4, .int (-1), .int 0, .int 0, .int 0, .int 0, .int 0, .int 0, .long 0]))] sz) [(x0, .inr (10, [.ref t0, .ref p0, .ref n0, .ref m0, .ref s0, .ref r0, .ref k0, .ref h0, .ref w0, .ref g0, .ref e0])), (h0, .inr (7, [.ref a0, .ref a1, .ref a2, .ref a3, .ref a4, .int (-1), .int 0, .int 0, .int 0, .int 0, .int 0, .int 0, .long 0]))]) (va_A [(x0, .inr (10, [.ref t0, .ref p0, .ref n0, .ref m0, .ref s0, .ref r0, .ref k0, .ref h0, .ref w0, .ref g0, .ref e0])), (h0, .inr (7, [.ref a0, .ref a1, .ref a2, .ref a3, .ref a4, .int (-1), .int 0, .int 0, .int 0, .int 0, .int 0, .int 0, .long 0]))] sz)) 0 0 (va_A [(x0, .inr (10, [.ref t0, .ref p0, .ref n0, .ref m0, .ref s0, .ref r0, .ref k0, .ref h0, .ref w0, .ref g0, .ref e0])), (h0, .inr (7, [.ref a0, .ref a1, .ref a2, .ref a3, .ref a4, .int (-1), .int 0, .int 0, .int 0, .int 0, .int 0, .int 0, .long 0]))] sz) := by
  refine x_metl (cc := cX11_result) (maxL := 3) (by decide) rfl (Nat.le_of_ble_eq_true rfl) ?_
  intro p e s m below meth c A H locs Q hx hb hml hown hts hr hlocks hmn hA hP hK hD hS ls hl hQ
  have hl : lv_has ls 3 [(0, .ref x0), (1, .int k), (2, .int b)] := hl
  have fl61 := hts (.fieldLink RX11 61 "SlopeRunner" "latest" "LSlopeRunner$Tape;") (by decide +kernel)
  have inX11 : ∀ w ∈ wsX110, w ∈ v_c_result0 := (fun w h => List.mem_cons_of_mem _ (List.mem_append_right _ (List.mem_append_right _ (List.mem_append_right _ h))))
  refine lv_aload_n hx hb dX11_result_0 rfl (lv_at hl 0 rfl) ?_
  refine va_get (D := D) (ci := 10) (v := .ref h0) (C := RX11) (T := TX11) (N := 11) hx hb hts inX11 hown hK hP 0 rfl rfl 7 (by decide) fl61 (fun _ h9 => h9) rfl dX11_result_1 ?_
  refine lv_iload_n hx hb dX11_result_4 rfl (lv_at hl 1 rfl) ?_
  refine x_calll (w1 := fun (u : Unit) => [(h0, .inr (7, [.ref a0, .ref a1, .ref a2, .ref a3, .ref a4, .int (-1), .int 0, .int 0, .int 0, .int 0, .int 0, .int 0, .long 0]))]) (wr := [(x0, .inr (10, [.ref t0, .ref p0, .ref n0, .ref m0, .ref s0, .ref r0, .ref k0, .ref h0, .ref w0, .ref g0, .ref e0]))]) (ws' := fun (u : Unit) => [(x0, .inr (10, [.ref t0, .ref p0, .ref n0, .ref m0, .ref s0, .ref r0, .ref k0, .ref h0, .ref w0, .ref g0, .ref e0])), (h0, .inr (7, [.ref a0, .ref a1, .ref a2, .ref a3, .ref a4, .int (-1), .int 0, .int 0, .int 0, .int 0, .int 0, .int 0, .long 0]))]) (va_runV (As := [.int k]) (rest := []) ⟨hx, hb, hml, hown, hts⟩ (c_Tape_resultValue0 l D y H.size h0 a0 a1 a2 a3 a4 (-1) 0 0 0 0 0 0 k) (cwV 1 hts g_c_result0_0 rfl rfl rfl (by decide +kernel) ⟨Nat.le_of_ble_eq_true rfl, Nat.le_of_ble_eq_true rfl⟩) (x_preV (q := (RX8, TX8, 13)) hK (x_subP hP [1] rfl) (x_subD hD [1] rfl (by decide)) (ci := 7) (q0 := 0) rfl rfl) rfl rfl hl.1 rfl (lv_room (Nat.le_of_ble_eq_true rfl)) dX11_result_5 ⟨Nat.le_of_ble_eq_true rfl, Nat.le_of_ble_eq_true rfl⟩) hP hD hS hA [1] [0] rfl rfl (by decide) (by decide) [0, 1] (fun _ => rfl) (by decide) (fun r_1 u H locs hw hP hD hS => ?_)
  try dsimp only at hw
  obtain rfl : r_1 = 0 := hw
  have hP : va_P D vwCl [(x0, .inr (10, [.ref t0, .ref p0, .ref n0, .ref m0, .ref s0, .ref r0, .ref k0, .ref h0, .ref w0, .ref g0, .ref e0])), (h0, .inr (7, [.ref a0, .ref a1, .ref a2, .ref a3, .ref a4, .int (-1), .int 0, .int 0, .int 0, .int 0, .int 0, .int 0, .long 0]))] H := hP
  have hD : va_D A [(x0, .inr (10, [.ref t0, .ref p0, .ref n0, .ref m0, .ref s0, .ref r0, .ref k0, .ref h0, .ref w0, .ref g0, .ref e0])), (h0, .inr (7, [.ref a0, .ref a1, .ref a2, .ref a3, .ref a4, .int (-1), .int 0, .int 0, .int 0, .int 0, .int 0, .int 0, .long 0]))] := hD
  refine lv_iload_n hx hb dX11_result_8 rfl (lv_at hl 2 rfl) ?_
  refine x_calll (w1 := fun (u : Unit) => []) (wr := [(x0, .inr (10, [.ref t0, .ref p0, .ref n0, .ref m0, .ref s0, .ref r0, .ref k0, .ref h0, .ref w0, .ref g0, .ref e0])), (h0, .inr (7, [.ref a0, .ref a1, .ref a2, .ref a3, .ref a4, .int (-1), .int 0, .int 0, .int 0, .int 0, .int 0, .int 0, .long 0]))]) (ws' := fun (u : Unit) => [(x0, .inr (10, [.ref t0, .ref p0, .ref n0, .ref m0, .ref s0, .ref r0, .ref k0, .ref h0, .ref w0, .ref g0, .ref e0])), (h0, .inr (7, [.ref a0, .ref a1, .ref a2, .ref a3, .ref a4, .int (-1), .int 0, .int 0, .int 0, .int 0, .int 0, .int 0, .long 0]))]) (va_runS (As := [.long 0, .int b]) (rest := []) ⟨hx, hb, hml, hown, hts⟩ (c_answer0 l D y H.size b) (cwS 2 hts g_c_result0_1 rfl rfl rfl (by decide +kernel) ⟨Nat.le_of_ble_eq_true rfl, Nat.le_of_ble_eq_true rfl⟩) (x_preS hK (x_subP hP [] rfl) (x_subD hD [] rfl (by decide))) rfl rfl hl.1 rfl (lv_room (Nat.le_of_ble_eq_true rfl)) dX11_result_9 ⟨Nat.le_of_ble_eq_true rfl, Nat.le_of_ble_eq_true rfl⟩) hP hD hS hA [] [0, 1] rfl rfl (by decide) (by decide) [0, 1] (fun _ => rfl) (by decide) (fun r_2 u H locs hw hP hD hS => ?_)
  try dsimp only at hw
  have hP : va_P D vwCl [(x0, .inr (10, [.ref t0, .ref p0, .ref n0, .ref m0, .ref s0, .ref r0, .ref k0, .ref h0, .ref w0, .ref g0, .ref e0])), (h0, .inr (7, [.ref a0, .ref a1, .ref a2, .ref a3, .ref a4, .int (-1), .int 0, .int 0, .int 0, .int 0, .int 0, .int 0, .long 0]))] H := hP
  have hD : va_D A [(x0, .inr (10, [.ref t0, .ref p0, .ref n0, .ref m0, .ref s0, .ref r0, .ref k0, .ref h0, .ref w0, .ref g0, .ref e0])), (h0, .inr (7, [.ref a0, .ref a1, .ref a2, .ref a3, .ref a4, .int (-1), .int 0, .int 0, .int 0, .int 0, .int 0, .int 0, .long 0]))] := hD
  exact x_lret (v := r_2) (u := ()) hx hb hr hw hP hD hK hS [0, 1] rfl (by decide) dX11_result_12 hlocks hQ

def v_c_near0 : List Cond := .code yX11_near cX11_near 2 (some .long) :: ([.fieldLink RX11 61 "SlopeRunner" "latest" "LSlopeRunner$Tape;", .fieldLink RX11 185 "SlopeRunner$Tape" "nearest" "J"] ++ ((wsS RX11 153 yX11_answer v_c_answer0) ++ (wsX110 ++ wsX80)))
theorem g_c_near0_0 : GoodIn v_c_near0 (wsS RX11 153 yX11_answer v_c_answer0) := goodIn_sub (fun w h => List.mem_cons_of_mem _ (List.mem_append_right _ (List.mem_append_left _ h))) (by decide +kernel)
set_option maxHeartbeats 4000000 in
set_option maxRecDepth 100000 in
theorem c_near0 (l : Launch) (D : va_G) (y : Nat → ClassId) (sz : Nat) (x0 t0 p0 n0 m0 s0 r0 k0 h0 w0 g0 e0 : Nat) (a0 a1 a2 a3 a4 : Nat) (b : Int32) : Met l yX11_near v_c_near0 ({ frames := 1, cells := 0, slots := 0, locals := 22 } : Room) (va_Pc [.ref x0, .int b] (xPre D (xT y) [(x0, .inr (10, [.ref t0, .ref p0, .ref n0, .ref m0, .ref s0, .ref r0, .ref k0, .ref h0, .ref w0, .ref g0, .ref e0])), (h0, .inr (7, [.ref a0, .ref a1, .ref a2, .ref a3, .ref a4, .int (-1), .int 0, .int 0, .int 0, .int 0, .int 0, .int 0, .long 0]))] sz)) (va_Ql (fun (r : Int64) (_ : Unit) => r = -2000000000) (fun (u : Unit) => xB D (xT y) (va_A [(x0, .inr (10, [.ref t0, .ref p0, .ref n0, .ref m0, .ref s0, .ref r0, .ref k0, .ref h0, .ref w0, .ref g0, .ref e0])), (h0, .inr (7, [.ref a0, .ref a1, .ref a2, .ref a3, .ref a4, .int (-1), .int 0, .int 0, .int 0, .int 0, .int 0, .int 0, .long 0]))] sz) [(x0, .inr (10, [.ref t0, .ref p0, .ref n0, .ref m0, .ref s0, .ref r0, .ref k0, .ref h0, .ref w0, .ref g0, .ref e0])), (h0, .inr (7, [.ref a0, .ref a1, .ref a2, .ref a3, .ref a4, .int (-1), .int 0, .int 0, .int 0, .int 0, .int 0, .int 0, .long 0]))]) (va_A [(x0, .inr (10, [.ref t0, .ref p0, .ref n0, .ref m0, .ref s0, .ref r0, .ref k0, .ref h0, .ref w0, .ref g0, .ref e0])), (h0, .inr (7, [.ref a0, .ref a1, .ref a2, .ref a3, .ref a4, .int (-1), .int 0, .int 0, .int 0, .int 0, .int 0, .int 0, .long 0]))] sz)) 0 0 (va_A [(x0, .inr (10, [.ref t0, .ref p0, .ref n0, .ref m0, .ref s0, .ref r0, .ref k0, .ref h0, .ref w0, .ref g0, .ref e0])), (h0, .inr (7, [.ref a0, .ref a1, .ref a2, .ref a3, .ref a4, .int (-1), .int 0, .int 0, .int 0, .int 0, .int 0, .int 0, .long 0]))] sz) := by
  refine x_metl (cc := cX11_near) (maxL := 2) (by decide) rfl (Nat.le_of_ble_eq_true rfl) ?_
  intro p e s m below meth c A H locs Q hx hb hml hown hts hr hlocks hmn hA hP hK hD hS ls hl hQ
  have hl : lv_has ls 2 [(0, .ref x0), (1, .int b)] := hl
  have fl61 := hts (.fieldLink RX11 61 "SlopeRunner" "latest" "LSlopeRunner$Tape;") (by decide +kernel)
  have inX11 : ∀ w ∈ wsX110, w ∈ v_c_near0 := (fun w h => List.mem_cons_of_mem _ (List.mem_append_right _ (List.mem_append_right _ (List.mem_append_left _ h))))
  have fl185 := hts (.fieldLink RX11 185 "SlopeRunner$Tape" "nearest" "J") (by decide +kernel)
  have inX8 : ∀ w ∈ wsX80, w ∈ v_c_near0 := (fun w h => List.mem_cons_of_mem _ (List.mem_append_right _ (List.mem_append_right _ (List.mem_append_right _ h))))
  refine lv_aload_n hx hb dX11_near_0 rfl (lv_at hl 0 rfl) ?_
  refine va_get (D := D) (ci := 10) (v := .ref h0) (C := RX11) (T := TX11) (N := 11) hx hb hts inX11 hown hK hP 0 rfl rfl 7 (by decide) fl61 (fun _ h9 => h9) rfl dX11_near_1 ?_
  refine va_get (D := D) (ci := 7) (v := .long 0) (C := RX8) (T := TX8) (N := 13) hx hb hts inX8 hown hK hP 1 rfl rfl 12 (by decide) fl185 (fun _ h9 => h9) rfl dX11_near_4 ?_
  refine lv_iload_n hx hb dX11_near_7 rfl (lv_at hl 1 rfl) ?_
  refine x_calll (w1 := fun (u : Unit) => []) (wr := [(x0, .inr (10, [.ref t0, .ref p0, .ref n0, .ref m0, .ref s0, .ref r0, .ref k0, .ref h0, .ref w0, .ref g0, .ref e0])), (h0, .inr (7, [.ref a0, .ref a1, .ref a2, .ref a3, .ref a4, .int (-1), .int 0, .int 0, .int 0, .int 0, .int 0, .int 0, .long 0]))]) (ws' := fun (u : Unit) => [(x0, .inr (10, [.ref t0, .ref p0, .ref n0, .ref m0, .ref s0, .ref r0, .ref k0, .ref h0, .ref w0, .ref g0, .ref e0])), (h0, .inr (7, [.ref a0, .ref a1, .ref a2, .ref a3, .ref a4, .int (-1), .int 0, .int 0, .int 0, .int 0, .int 0, .int 0, .long 0]))]) (va_runS (As := [.long 0, .int b]) (rest := []) ⟨hx, hb, hml, hown, hts⟩ (c_answer0 l D y H.size b) (cwS 2 hts g_c_near0_0 rfl rfl rfl (by decide +kernel) ⟨Nat.le_of_ble_eq_true rfl, Nat.le_of_ble_eq_true rfl⟩) (x_preS hK (x_subP hP [] rfl) (x_subD hD [] rfl (by decide))) rfl rfl hl.1 rfl (lv_room (Nat.le_of_ble_eq_true rfl)) dX11_near_8 ⟨Nat.le_of_ble_eq_true rfl, Nat.le_of_ble_eq_true rfl⟩) hP hD hS hA [] [0, 1] rfl rfl (by decide) (by decide) [0, 1] (fun _ => rfl) (by decide) (fun r_1 u H locs hw hP hD hS => ?_)
  try dsimp only at hw
  have hP : va_P D vwCl [(x0, .inr (10, [.ref t0, .ref p0, .ref n0, .ref m0, .ref s0, .ref r0, .ref k0, .ref h0, .ref w0, .ref g0, .ref e0])), (h0, .inr (7, [.ref a0, .ref a1, .ref a2, .ref a3, .ref a4, .int (-1), .int 0, .int 0, .int 0, .int 0, .int 0, .int 0, .long 0]))] H := hP
  have hD : va_D A [(x0, .inr (10, [.ref t0, .ref p0, .ref n0, .ref m0, .ref s0, .ref r0, .ref k0, .ref h0, .ref w0, .ref g0, .ref e0])), (h0, .inr (7, [.ref a0, .ref a1, .ref a2, .ref a3, .ref a4, .int (-1), .int 0, .int 0, .int 0, .int 0, .int 0, .int 0, .long 0]))] := hD
  exact x_lret (v := r_1) (u := ()) hx hb hr hw hP hD hK hS [0, 1] rfl (by decide) dX11_near_11 hlocks hQ

def v_c_forward0 : List Cond := .code yX11_forward cX11_forward 4 (some .long) :: ([.fieldLink RX11 61 "SlopeRunner" "latest" "LSlopeRunner$Tape;", .constantLong RX11 192 (-2000000000)] ++ ((wsV RX11 189 RX8 yX8_hasBoth v_c_Tape_hasBoth) ++ wsX110))
theorem g_c_forward0_0 : GoodIn v_c_forward0 (wsV RX11 189 RX8 yX8_hasBoth v_c_Tape_hasBoth) := goodIn_sub (fun w h => List.mem_cons_of_mem _ (List.mem_append_right _ (List.mem_append_left _ h))) (by decide +kernel)
set_option maxHeartbeats 4000000 in
set_option maxRecDepth 100000 in
theorem c_forward0 (l : Launch) (D : va_G) (y : Nat → ClassId) (sz : Nat) (x0 t0 p0 n0 m0 s0 r0 k0 h0 w0 g0 e0 : Nat) (a0 a1 a2 a3 a4 : Nat) (k i b : Int32) : Met l yX11_forward v_c_forward0 ({ frames := 2, cells := 0, slots := 0, locals := 43 } : Room) (va_Pc [.ref x0, .int k, .int i, .int b] (xPre D (xT y) [(x0, .inr (10, [.ref t0, .ref p0, .ref n0, .ref m0, .ref s0, .ref r0, .ref k0, .ref h0, .ref w0, .ref g0, .ref e0])), (h0, .inr (7, [.ref a0, .ref a1, .ref a2, .ref a3, .ref a4, .int (-1), .int 0, .int 0, .int 0, .int 0, .int 0, .int 0, .long 0]))] sz)) (va_Ql (fun (r : Int64) (_ : Unit) => r = -2000000000) (fun (u : Unit) => xB D (xT y) (va_A [(x0, .inr (10, [.ref t0, .ref p0, .ref n0, .ref m0, .ref s0, .ref r0, .ref k0, .ref h0, .ref w0, .ref g0, .ref e0])), (h0, .inr (7, [.ref a0, .ref a1, .ref a2, .ref a3, .ref a4, .int (-1), .int 0, .int 0, .int 0, .int 0, .int 0, .int 0, .long 0]))] sz) [(x0, .inr (10, [.ref t0, .ref p0, .ref n0, .ref m0, .ref s0, .ref r0, .ref k0, .ref h0, .ref w0, .ref g0, .ref e0])), (h0, .inr (7, [.ref a0, .ref a1, .ref a2, .ref a3, .ref a4, .int (-1), .int 0, .int 0, .int 0, .int 0, .int 0, .int 0, .long 0]))]) (va_A [(x0, .inr (10, [.ref t0, .ref p0, .ref n0, .ref m0, .ref s0, .ref r0, .ref k0, .ref h0, .ref w0, .ref g0, .ref e0])), (h0, .inr (7, [.ref a0, .ref a1, .ref a2, .ref a3, .ref a4, .int (-1), .int 0, .int 0, .int 0, .int 0, .int 0, .int 0, .long 0]))] sz)) 0 0 (va_A [(x0, .inr (10, [.ref t0, .ref p0, .ref n0, .ref m0, .ref s0, .ref r0, .ref k0, .ref h0, .ref w0, .ref g0, .ref e0])), (h0, .inr (7, [.ref a0, .ref a1, .ref a2, .ref a3, .ref a4, .int (-1), .int 0, .int 0, .int 0, .int 0, .int 0, .int 0, .long 0]))] sz) := by
  refine x_metl (cc := cX11_forward) (maxL := 4) (by decide) rfl (Nat.le_of_ble_eq_true rfl) ?_
  intro p e s m below meth c A H locs Q hx hb hml hown hts hr hlocks hmn hA hP hK hD hS ls hl hQ
  have hl : lv_has ls 4 [(0, .ref x0), (1, .int k), (2, .int i), (3, .int b)] := hl
  have fl61 := hts (.fieldLink RX11 61 "SlopeRunner" "latest" "LSlopeRunner$Tape;") (by decide +kernel)
  have inX11 : ∀ w ∈ wsX110, w ∈ v_c_forward0 := (fun w h => List.mem_cons_of_mem _ (List.mem_append_right _ (List.mem_append_right _ h)))
  refine lv_aload_n hx hb dX11_forward_0 rfl (lv_at hl 0 rfl) ?_
  refine va_get (D := D) (ci := 10) (v := .ref h0) (C := RX11) (T := TX11) (N := 11) hx hb hts inX11 hown hK hP 0 rfl rfl 7 (by decide) fl61 (fun _ h9 => h9) rfl dX11_forward_1 ?_
  refine lv_iload_n hx hb dX11_forward_4 rfl (lv_at hl 1 rfl) ?_
  refine lv_iload_n hx hb dX11_forward_5 rfl (lv_at hl 2 rfl) ?_
  refine x_calli (w1 := fun (u : Unit) => [(h0, .inr (7, [.ref a0, .ref a1, .ref a2, .ref a3, .ref a4, .int (-1), .int 0, .int 0, .int 0, .int 0, .int 0, .int 0, .long 0]))]) (wr := [(x0, .inr (10, [.ref t0, .ref p0, .ref n0, .ref m0, .ref s0, .ref r0, .ref k0, .ref h0, .ref w0, .ref g0, .ref e0]))]) (ws' := fun (u : Unit) => [(x0, .inr (10, [.ref t0, .ref p0, .ref n0, .ref m0, .ref s0, .ref r0, .ref k0, .ref h0, .ref w0, .ref g0, .ref e0])), (h0, .inr (7, [.ref a0, .ref a1, .ref a2, .ref a3, .ref a4, .int (-1), .int 0, .int 0, .int 0, .int 0, .int 0, .int 0, .long 0]))]) (va_runV (As := [.int k, .int i]) (rest := []) ⟨hx, hb, hml, hown, hts⟩ (c_Tape_hasBoth l D y H.size h0 a0 a1 a2 a3 a4 (-1) 0 0 0 0 0 0 0 k i) (cwV 2 hts g_c_forward0_0 rfl rfl rfl (by decide +kernel) ⟨Nat.le_of_ble_eq_true rfl, Nat.le_of_ble_eq_true rfl⟩) (x_preV (q := (RX8, TX8, 13)) hK (x_subP hP [1] rfl) (x_subD hD [1] rfl (by decide)) (ci := 7) (q0 := 0) rfl rfl) rfl rfl hl.1 rfl (lv_room (Nat.le_of_ble_eq_true rfl)) dX11_forward_6 ⟨Nat.le_of_ble_eq_true rfl, Nat.le_of_ble_eq_true rfl⟩) hP hD hS hA [1] [0] rfl rfl (by decide) (by decide) [0, 1] (fun _ => rfl) (by decide) (fun r_1 u H locs hw hP hD hS => ?_)
  try dsimp only at hw
  have hP : va_P D vwCl [(x0, .inr (10, [.ref t0, .ref p0, .ref n0, .ref m0, .ref s0, .ref r0, .ref k0, .ref h0, .ref w0, .ref g0, .ref e0])), (h0, .inr (7, [.ref a0, .ref a1, .ref a2, .ref a3, .ref a4, .int (-1), .int 0, .int 0, .int 0, .int 0, .int 0, .int 0, .long 0]))] H := hP
  have hD : va_D A [(x0, .inr (10, [.ref t0, .ref p0, .ref n0, .ref m0, .ref s0, .ref r0, .ref k0, .ref h0, .ref w0, .ref g0, .ref e0])), (h0, .inr (7, [.ref a0, .ref a1, .ref a2, .ref a3, .ref a4, .int (-1), .int 0, .int 0, .int 0, .int 0, .int 0, .int 0, .long 0]))] := hD
  rcases hw with ⟨rfl, g_2⟩ | ⟨rfl, g_2⟩
  · exact absurd g_2 (by (try dsimp only); (try simp only [lg_cmp_lt, lg_cmp_le, lg_cmp_gt, lg_cmp_ge] at *); (try simp only [x_lt, x_le, Int32.reduceToInt, x_ltL, x_leL, Int64.reduceToInt] at *); omega)
  · refine lv_if_ne (tgt := 16) hx hb dX11_forward_9 (by decide) (fun c_3 => ?_) (fun c_3 => ?_)
    · exact absurd (by decide) c_3
    · refine lv_ldc2 (v := (-2000000000)) hx hb hown (hts (.constantLong RX11 192 (-2000000000)) (by decide +kernel)) dX11_forward_12 ?_
      exact x_lret (v := (-2000000000)) (u := ()) hx hb hr rfl hP hD hK hS [0, 1] rfl (by decide) dX11_forward_15 hlocks hQ

def v_c_backward0 : List Cond := .code yX11_backward cX11_backward 4 (some .long) :: ([.fieldLink RX11 61 "SlopeRunner" "latest" "LSlopeRunner$Tape;", .constantLong RX11 192 (-2000000000)] ++ ((wsV RX11 189 RX8 yX8_hasBoth v_c_Tape_hasBoth) ++ wsX110))
theorem g_c_backward0_0 : GoodIn v_c_backward0 (wsV RX11 189 RX8 yX8_hasBoth v_c_Tape_hasBoth) := goodIn_sub (fun w h => List.mem_cons_of_mem _ (List.mem_append_right _ (List.mem_append_left _ h))) (by decide +kernel)
set_option maxHeartbeats 4000000 in
set_option maxRecDepth 100000 in
theorem c_backward0 (l : Launch) (D : va_G) (y : Nat → ClassId) (sz : Nat) (x0 t0 p0 n0 m0 s0 r0 k0 h0 w0 g0 e0 : Nat) (a0 a1 a2 a3 a4 : Nat) (k i b : Int32) : Met l yX11_backward v_c_backward0 ({ frames := 2, cells := 0, slots := 0, locals := 43 } : Room) (va_Pc [.ref x0, .int k, .int i, .int b] (xPre D (xT y) [(x0, .inr (10, [.ref t0, .ref p0, .ref n0, .ref m0, .ref s0, .ref r0, .ref k0, .ref h0, .ref w0, .ref g0, .ref e0])), (h0, .inr (7, [.ref a0, .ref a1, .ref a2, .ref a3, .ref a4, .int (-1), .int 0, .int 0, .int 0, .int 0, .int 0, .int 0, .long 0]))] sz)) (va_Ql (fun (r : Int64) (_ : Unit) => r = -2000000000) (fun (u : Unit) => xB D (xT y) (va_A [(x0, .inr (10, [.ref t0, .ref p0, .ref n0, .ref m0, .ref s0, .ref r0, .ref k0, .ref h0, .ref w0, .ref g0, .ref e0])), (h0, .inr (7, [.ref a0, .ref a1, .ref a2, .ref a3, .ref a4, .int (-1), .int 0, .int 0, .int 0, .int 0, .int 0, .int 0, .long 0]))] sz) [(x0, .inr (10, [.ref t0, .ref p0, .ref n0, .ref m0, .ref s0, .ref r0, .ref k0, .ref h0, .ref w0, .ref g0, .ref e0])), (h0, .inr (7, [.ref a0, .ref a1, .ref a2, .ref a3, .ref a4, .int (-1), .int 0, .int 0, .int 0, .int 0, .int 0, .int 0, .long 0]))]) (va_A [(x0, .inr (10, [.ref t0, .ref p0, .ref n0, .ref m0, .ref s0, .ref r0, .ref k0, .ref h0, .ref w0, .ref g0, .ref e0])), (h0, .inr (7, [.ref a0, .ref a1, .ref a2, .ref a3, .ref a4, .int (-1), .int 0, .int 0, .int 0, .int 0, .int 0, .int 0, .long 0]))] sz)) 0 0 (va_A [(x0, .inr (10, [.ref t0, .ref p0, .ref n0, .ref m0, .ref s0, .ref r0, .ref k0, .ref h0, .ref w0, .ref g0, .ref e0])), (h0, .inr (7, [.ref a0, .ref a1, .ref a2, .ref a3, .ref a4, .int (-1), .int 0, .int 0, .int 0, .int 0, .int 0, .int 0, .long 0]))] sz) := by
  refine x_metl (cc := cX11_backward) (maxL := 4) (by decide) rfl (Nat.le_of_ble_eq_true rfl) ?_
  intro p e s m below meth c A H locs Q hx hb hml hown hts hr hlocks hmn hA hP hK hD hS ls hl hQ
  have hl : lv_has ls 4 [(0, .ref x0), (1, .int k), (2, .int i), (3, .int b)] := hl
  have fl61 := hts (.fieldLink RX11 61 "SlopeRunner" "latest" "LSlopeRunner$Tape;") (by decide +kernel)
  have inX11 : ∀ w ∈ wsX110, w ∈ v_c_backward0 := (fun w h => List.mem_cons_of_mem _ (List.mem_append_right _ (List.mem_append_right _ h)))
  refine lv_aload_n hx hb dX11_backward_0 rfl (lv_at hl 0 rfl) ?_
  refine va_get (D := D) (ci := 10) (v := .ref h0) (C := RX11) (T := TX11) (N := 11) hx hb hts inX11 hown hK hP 0 rfl rfl 7 (by decide) fl61 (fun _ h9 => h9) rfl dX11_backward_1 ?_
  refine lv_iload_n hx hb dX11_backward_4 rfl (lv_at hl 1 rfl) ?_
  refine lv_iload_n hx hb dX11_backward_5 rfl (lv_at hl 2 rfl) ?_
  refine x_calli (w1 := fun (u : Unit) => [(h0, .inr (7, [.ref a0, .ref a1, .ref a2, .ref a3, .ref a4, .int (-1), .int 0, .int 0, .int 0, .int 0, .int 0, .int 0, .long 0]))]) (wr := [(x0, .inr (10, [.ref t0, .ref p0, .ref n0, .ref m0, .ref s0, .ref r0, .ref k0, .ref h0, .ref w0, .ref g0, .ref e0]))]) (ws' := fun (u : Unit) => [(x0, .inr (10, [.ref t0, .ref p0, .ref n0, .ref m0, .ref s0, .ref r0, .ref k0, .ref h0, .ref w0, .ref g0, .ref e0])), (h0, .inr (7, [.ref a0, .ref a1, .ref a2, .ref a3, .ref a4, .int (-1), .int 0, .int 0, .int 0, .int 0, .int 0, .int 0, .long 0]))]) (va_runV (As := [.int k, .int i]) (rest := []) ⟨hx, hb, hml, hown, hts⟩ (c_Tape_hasBoth l D y H.size h0 a0 a1 a2 a3 a4 (-1) 0 0 0 0 0 0 0 k i) (cwV 2 hts g_c_backward0_0 rfl rfl rfl (by decide +kernel) ⟨Nat.le_of_ble_eq_true rfl, Nat.le_of_ble_eq_true rfl⟩) (x_preV (q := (RX8, TX8, 13)) hK (x_subP hP [1] rfl) (x_subD hD [1] rfl (by decide)) (ci := 7) (q0 := 0) rfl rfl) rfl rfl hl.1 rfl (lv_room (Nat.le_of_ble_eq_true rfl)) dX11_backward_6 ⟨Nat.le_of_ble_eq_true rfl, Nat.le_of_ble_eq_true rfl⟩) hP hD hS hA [1] [0] rfl rfl (by decide) (by decide) [0, 1] (fun _ => rfl) (by decide) (fun r_1 u H locs hw hP hD hS => ?_)
  try dsimp only at hw
  have hP : va_P D vwCl [(x0, .inr (10, [.ref t0, .ref p0, .ref n0, .ref m0, .ref s0, .ref r0, .ref k0, .ref h0, .ref w0, .ref g0, .ref e0])), (h0, .inr (7, [.ref a0, .ref a1, .ref a2, .ref a3, .ref a4, .int (-1), .int 0, .int 0, .int 0, .int 0, .int 0, .int 0, .long 0]))] H := hP
  have hD : va_D A [(x0, .inr (10, [.ref t0, .ref p0, .ref n0, .ref m0, .ref s0, .ref r0, .ref k0, .ref h0, .ref w0, .ref g0, .ref e0])), (h0, .inr (7, [.ref a0, .ref a1, .ref a2, .ref a3, .ref a4, .int (-1), .int 0, .int 0, .int 0, .int 0, .int 0, .int 0, .long 0]))] := hD
  rcases hw with ⟨rfl, g_2⟩ | ⟨rfl, g_2⟩
  · exact absurd g_2 (by (try dsimp only); (try simp only [lg_cmp_lt, lg_cmp_le, lg_cmp_gt, lg_cmp_ge] at *); (try simp only [x_lt, x_le, Int32.reduceToInt, x_ltL, x_leL, Int64.reduceToInt] at *); omega)
  · refine lv_if_ne (tgt := 16) hx hb dX11_backward_9 (by decide) (fun c_3 => ?_) (fun c_3 => ?_)
    · exact absurd (by decide) c_3
    · refine lv_ldc2 (v := (-2000000000)) hx hb hown (hts (.constantLong RX11 192 (-2000000000)) (by decide +kernel)) dX11_backward_12 ?_
      exact x_lret (v := (-2000000000)) (u := ()) hx hb hr rfl hP hD hK hS [0, 1] rfl (by decide) dX11_backward_15 hlocks hQ

def v_c_twice0 : List Cond := .code yX11_twice cX11_twice 5 (some .long) :: ([.fieldLink RX11 61 "SlopeRunner" "latest" "LSlopeRunner$Tape;", .constantLong RX11 192 (-2000000000)] ++ ((wsV RX11 189 RX8 yX8_hasBoth v_c_Tape_hasBoth) ++ wsX110))
theorem g_c_twice0_0 : GoodIn v_c_twice0 (wsV RX11 189 RX8 yX8_hasBoth v_c_Tape_hasBoth) := goodIn_sub (fun w h => List.mem_cons_of_mem _ (List.mem_append_right _ (List.mem_append_left _ h))) (by decide +kernel)
set_option maxHeartbeats 4000000 in
set_option maxRecDepth 100000 in
theorem c_twice0 (l : Launch) (D : va_G) (y : Nat → ClassId) (sz : Nat) (x0 t0 p0 n0 m0 s0 r0 k0 h0 w0 g0 e0 : Nat) (a0 a1 a2 a3 a4 : Nat) (k i j b : Int32) : Met l yX11_twice v_c_twice0 ({ frames := 2, cells := 0, slots := 0, locals := 43 } : Room) (va_Pc [.ref x0, .int k, .int i, .int j, .int b] (xPre D (xT y) [(x0, .inr (10, [.ref t0, .ref p0, .ref n0, .ref m0, .ref s0, .ref r0, .ref k0, .ref h0, .ref w0, .ref g0, .ref e0])), (h0, .inr (7, [.ref a0, .ref a1, .ref a2, .ref a3, .ref a4, .int (-1), .int 0, .int 0, .int 0, .int 0, .int 0, .int 0, .long 0]))] sz)) (va_Ql (fun (r : Int64) (_ : Unit) => r = -2000000000) (fun (u : Unit) => xB D (xT y) (va_A [(x0, .inr (10, [.ref t0, .ref p0, .ref n0, .ref m0, .ref s0, .ref r0, .ref k0, .ref h0, .ref w0, .ref g0, .ref e0])), (h0, .inr (7, [.ref a0, .ref a1, .ref a2, .ref a3, .ref a4, .int (-1), .int 0, .int 0, .int 0, .int 0, .int 0, .int 0, .long 0]))] sz) [(x0, .inr (10, [.ref t0, .ref p0, .ref n0, .ref m0, .ref s0, .ref r0, .ref k0, .ref h0, .ref w0, .ref g0, .ref e0])), (h0, .inr (7, [.ref a0, .ref a1, .ref a2, .ref a3, .ref a4, .int (-1), .int 0, .int 0, .int 0, .int 0, .int 0, .int 0, .long 0]))]) (va_A [(x0, .inr (10, [.ref t0, .ref p0, .ref n0, .ref m0, .ref s0, .ref r0, .ref k0, .ref h0, .ref w0, .ref g0, .ref e0])), (h0, .inr (7, [.ref a0, .ref a1, .ref a2, .ref a3, .ref a4, .int (-1), .int 0, .int 0, .int 0, .int 0, .int 0, .int 0, .long 0]))] sz)) 0 0 (va_A [(x0, .inr (10, [.ref t0, .ref p0, .ref n0, .ref m0, .ref s0, .ref r0, .ref k0, .ref h0, .ref w0, .ref g0, .ref e0])), (h0, .inr (7, [.ref a0, .ref a1, .ref a2, .ref a3, .ref a4, .int (-1), .int 0, .int 0, .int 0, .int 0, .int 0, .int 0, .long 0]))] sz) := by
  refine x_metl (cc := cX11_twice) (maxL := 5) (by decide) rfl (Nat.le_of_ble_eq_true rfl) ?_
  intro p e s m below meth c A H locs Q hx hb hml hown hts hr hlocks hmn hA hP hK hD hS ls hl hQ
  have hl : lv_has ls 5 [(0, .ref x0), (1, .int k), (2, .int i), (3, .int j), (4, .int b)] := hl
  have fl61 := hts (.fieldLink RX11 61 "SlopeRunner" "latest" "LSlopeRunner$Tape;") (by decide +kernel)
  have inX11 : ∀ w ∈ wsX110, w ∈ v_c_twice0 := (fun w h => List.mem_cons_of_mem _ (List.mem_append_right _ (List.mem_append_right _ h)))
  refine lv_aload_n hx hb dX11_twice_0 rfl (lv_at hl 0 rfl) ?_
  refine va_get (D := D) (ci := 10) (v := .ref h0) (C := RX11) (T := TX11) (N := 11) hx hb hts inX11 hown hK hP 0 rfl rfl 7 (by decide) fl61 (fun _ h9 => h9) rfl dX11_twice_1 ?_
  refine lv_iload_n hx hb dX11_twice_4 rfl (lv_at hl 1 rfl) ?_
  refine lv_iload_n hx hb dX11_twice_5 rfl (lv_at hl 2 rfl) ?_
  refine x_calli (w1 := fun (u : Unit) => [(h0, .inr (7, [.ref a0, .ref a1, .ref a2, .ref a3, .ref a4, .int (-1), .int 0, .int 0, .int 0, .int 0, .int 0, .int 0, .long 0]))]) (wr := [(x0, .inr (10, [.ref t0, .ref p0, .ref n0, .ref m0, .ref s0, .ref r0, .ref k0, .ref h0, .ref w0, .ref g0, .ref e0]))]) (ws' := fun (u : Unit) => [(x0, .inr (10, [.ref t0, .ref p0, .ref n0, .ref m0, .ref s0, .ref r0, .ref k0, .ref h0, .ref w0, .ref g0, .ref e0])), (h0, .inr (7, [.ref a0, .ref a1, .ref a2, .ref a3, .ref a4, .int (-1), .int 0, .int 0, .int 0, .int 0, .int 0, .int 0, .long 0]))]) (va_runV (As := [.int k, .int i]) (rest := []) ⟨hx, hb, hml, hown, hts⟩ (c_Tape_hasBoth l D y H.size h0 a0 a1 a2 a3 a4 (-1) 0 0 0 0 0 0 0 k i) (cwV 2 hts g_c_twice0_0 rfl rfl rfl (by decide +kernel) ⟨Nat.le_of_ble_eq_true rfl, Nat.le_of_ble_eq_true rfl⟩) (x_preV (q := (RX8, TX8, 13)) hK (x_subP hP [1] rfl) (x_subD hD [1] rfl (by decide)) (ci := 7) (q0 := 0) rfl rfl) rfl rfl hl.1 rfl (lv_room (Nat.le_of_ble_eq_true rfl)) dX11_twice_6 ⟨Nat.le_of_ble_eq_true rfl, Nat.le_of_ble_eq_true rfl⟩) hP hD hS hA [1] [0] rfl rfl (by decide) (by decide) [0, 1] (fun _ => rfl) (by decide) (fun r_1 u H locs hw hP hD hS => ?_)
  try dsimp only at hw
  have hP : va_P D vwCl [(x0, .inr (10, [.ref t0, .ref p0, .ref n0, .ref m0, .ref s0, .ref r0, .ref k0, .ref h0, .ref w0, .ref g0, .ref e0])), (h0, .inr (7, [.ref a0, .ref a1, .ref a2, .ref a3, .ref a4, .int (-1), .int 0, .int 0, .int 0, .int 0, .int 0, .int 0, .long 0]))] H := hP
  have hD : va_D A [(x0, .inr (10, [.ref t0, .ref p0, .ref n0, .ref m0, .ref s0, .ref r0, .ref k0, .ref h0, .ref w0, .ref g0, .ref e0])), (h0, .inr (7, [.ref a0, .ref a1, .ref a2, .ref a3, .ref a4, .int (-1), .int 0, .int 0, .int 0, .int 0, .int 0, .int 0, .long 0]))] := hD
  rcases hw with ⟨rfl, g_2⟩ | ⟨rfl, g_2⟩
  · exact absurd g_2 (by (try dsimp only); (try simp only [lg_cmp_lt, lg_cmp_le, lg_cmp_gt, lg_cmp_ge] at *); (try simp only [x_lt, x_le, Int32.reduceToInt, x_ltL, x_leL, Int64.reduceToInt] at *); omega)
  · refine lv_if_eq (tgt := 24) hx hb dX11_twice_9 (by decide) (fun c_3 => ?_) (fun c_3 => ?_)
    · refine lv_ldc2 (v := (-2000000000)) hx hb hown (hts (.constantLong RX11 192 (-2000000000)) (by decide +kernel)) dX11_twice_24 ?_
      exact x_lret (v := (-2000000000)) (u := ()) hx hb hr rfl hP hD hK hS [0, 1] rfl (by decide) dX11_twice_27 hlocks hQ
    · exact absurd (by decide) c_3

def v_c_difference0 : List Cond := .code yX11_difference cX11_difference 12 (some .long) :: ([.fieldLink RX11 61 "SlopeRunner" "latest" "LSlopeRunner$Tape;", .constantLong RX11 192 (-2000000000)] ++ ((wsV RX11 189 RX8 yX8_hasBoth v_c_Tape_hasBoth) ++ wsX110))
theorem g_c_difference0_0 : GoodIn v_c_difference0 (wsV RX11 189 RX8 yX8_hasBoth v_c_Tape_hasBoth) := goodIn_sub (fun w h => List.mem_cons_of_mem _ (List.mem_append_right _ (List.mem_append_left _ h))) (by decide +kernel)
set_option maxHeartbeats 4000000 in
set_option maxRecDepth 100000 in
theorem c_difference0 (l : Launch) (D : va_G) (y : Nat → ClassId) (sz : Nat) (x0 t0 p0 n0 m0 s0 r0 k0 h0 w0 g0 e0 : Nat) (a0 a1 a2 a3 a4 : Nat) (k i hh be b : Int32) : Met l yX11_difference v_c_difference0 ({ frames := 2, cells := 0, slots := 0, locals := 43 } : Room) (va_Pc [.ref x0, .int k, .int i, .int hh, .int be, .int b] (xPre D (xT y) [(x0, .inr (10, [.ref t0, .ref p0, .ref n0, .ref m0, .ref s0, .ref r0, .ref k0, .ref h0, .ref w0, .ref g0, .ref e0])), (h0, .inr (7, [.ref a0, .ref a1, .ref a2, .ref a3, .ref a4, .int (-1), .int 0, .int 0, .int 0, .int 0, .int 0, .int 0, .long 0]))] sz)) (va_Ql (fun (r : Int64) (_ : Unit) => r = -2000000000) (fun (u : Unit) => xB D (xT y) (va_A [(x0, .inr (10, [.ref t0, .ref p0, .ref n0, .ref m0, .ref s0, .ref r0, .ref k0, .ref h0, .ref w0, .ref g0, .ref e0])), (h0, .inr (7, [.ref a0, .ref a1, .ref a2, .ref a3, .ref a4, .int (-1), .int 0, .int 0, .int 0, .int 0, .int 0, .int 0, .long 0]))] sz) [(x0, .inr (10, [.ref t0, .ref p0, .ref n0, .ref m0, .ref s0, .ref r0, .ref k0, .ref h0, .ref w0, .ref g0, .ref e0])), (h0, .inr (7, [.ref a0, .ref a1, .ref a2, .ref a3, .ref a4, .int (-1), .int 0, .int 0, .int 0, .int 0, .int 0, .int 0, .long 0]))]) (va_A [(x0, .inr (10, [.ref t0, .ref p0, .ref n0, .ref m0, .ref s0, .ref r0, .ref k0, .ref h0, .ref w0, .ref g0, .ref e0])), (h0, .inr (7, [.ref a0, .ref a1, .ref a2, .ref a3, .ref a4, .int (-1), .int 0, .int 0, .int 0, .int 0, .int 0, .int 0, .long 0]))] sz)) 0 0 (va_A [(x0, .inr (10, [.ref t0, .ref p0, .ref n0, .ref m0, .ref s0, .ref r0, .ref k0, .ref h0, .ref w0, .ref g0, .ref e0])), (h0, .inr (7, [.ref a0, .ref a1, .ref a2, .ref a3, .ref a4, .int (-1), .int 0, .int 0, .int 0, .int 0, .int 0, .int 0, .long 0]))] sz) := by
  refine x_metl (cc := cX11_difference) (maxL := 12) (by decide) rfl (Nat.le_of_ble_eq_true rfl) ?_
  intro p e s m below meth c A H locs Q hx hb hml hown hts hr hlocks hmn hA hP hK hD hS ls hl hQ
  have hl : lv_has ls 12 [(0, .ref x0), (1, .int k), (2, .int i), (3, .int hh), (4, .int be), (5, .int b)] := hl
  have fl61 := hts (.fieldLink RX11 61 "SlopeRunner" "latest" "LSlopeRunner$Tape;") (by decide +kernel)
  have inX11 : ∀ w ∈ wsX110, w ∈ v_c_difference0 := (fun w h => List.mem_cons_of_mem _ (List.mem_append_right _ (List.mem_append_right _ h)))
  refine lv_aload_n hx hb dX11_difference_0 rfl (lv_at hl 0 rfl) ?_
  refine va_get (D := D) (ci := 10) (v := .ref h0) (C := RX11) (T := TX11) (N := 11) hx hb hts inX11 hown hK hP 0 rfl rfl 7 (by decide) fl61 (fun _ h9 => h9) rfl dX11_difference_1 ?_
  refine lv_iload_n hx hb dX11_difference_4 rfl (lv_at hl 1 rfl) ?_
  refine lv_iload_n hx hb dX11_difference_5 rfl (lv_at hl 2 rfl) ?_
  refine x_calli (w1 := fun (u : Unit) => [(h0, .inr (7, [.ref a0, .ref a1, .ref a2, .ref a3, .ref a4, .int (-1), .int 0, .int 0, .int 0, .int 0, .int 0, .int 0, .long 0]))]) (wr := [(x0, .inr (10, [.ref t0, .ref p0, .ref n0, .ref m0, .ref s0, .ref r0, .ref k0, .ref h0, .ref w0, .ref g0, .ref e0]))]) (ws' := fun (u : Unit) => [(x0, .inr (10, [.ref t0, .ref p0, .ref n0, .ref m0, .ref s0, .ref r0, .ref k0, .ref h0, .ref w0, .ref g0, .ref e0])), (h0, .inr (7, [.ref a0, .ref a1, .ref a2, .ref a3, .ref a4, .int (-1), .int 0, .int 0, .int 0, .int 0, .int 0, .int 0, .long 0]))]) (va_runV (As := [.int k, .int i]) (rest := []) ⟨hx, hb, hml, hown, hts⟩ (c_Tape_hasBoth l D y H.size h0 a0 a1 a2 a3 a4 (-1) 0 0 0 0 0 0 0 k i) (cwV 2 hts g_c_difference0_0 rfl rfl rfl (by decide +kernel) ⟨Nat.le_of_ble_eq_true rfl, Nat.le_of_ble_eq_true rfl⟩) (x_preV (q := (RX8, TX8, 13)) hK (x_subP hP [1] rfl) (x_subD hD [1] rfl (by decide)) (ci := 7) (q0 := 0) rfl rfl) rfl rfl hl.1 rfl (lv_room (Nat.le_of_ble_eq_true rfl)) dX11_difference_6 ⟨Nat.le_of_ble_eq_true rfl, Nat.le_of_ble_eq_true rfl⟩) hP hD hS hA [1] [0] rfl rfl (by decide) (by decide) [0, 1] (fun _ => rfl) (by decide) (fun r_1 u H locs hw hP hD hS => ?_)
  try dsimp only at hw
  have hP : va_P D vwCl [(x0, .inr (10, [.ref t0, .ref p0, .ref n0, .ref m0, .ref s0, .ref r0, .ref k0, .ref h0, .ref w0, .ref g0, .ref e0])), (h0, .inr (7, [.ref a0, .ref a1, .ref a2, .ref a3, .ref a4, .int (-1), .int 0, .int 0, .int 0, .int 0, .int 0, .int 0, .long 0]))] H := hP
  have hD : va_D A [(x0, .inr (10, [.ref t0, .ref p0, .ref n0, .ref m0, .ref s0, .ref r0, .ref k0, .ref h0, .ref w0, .ref g0, .ref e0])), (h0, .inr (7, [.ref a0, .ref a1, .ref a2, .ref a3, .ref a4, .int (-1), .int 0, .int 0, .int 0, .int 0, .int 0, .int 0, .long 0]))] := hD
  rcases hw with ⟨rfl, g_2⟩ | ⟨rfl, g_2⟩
  · exact absurd g_2 (by (try dsimp only); (try simp only [lg_cmp_lt, lg_cmp_le, lg_cmp_gt, lg_cmp_ge] at *); (try simp only [x_lt, x_le, Int32.reduceToInt, x_ltL, x_leL, Int64.reduceToInt] at *); omega)
  · refine lv_if_eq (tgt := 25) hx hb dX11_difference_9 (by decide) (fun c_3 => ?_) (fun c_3 => ?_)
    · refine lv_ldc2 (v := (-2000000000)) hx hb hown (hts (.constantLong RX11 192 (-2000000000)) (by decide +kernel)) dX11_difference_25 ?_
      exact x_lret (v := (-2000000000)) (u := ()) hx hb hr rfl hP hD hK hS [0, 1] rfl (by decide) dX11_difference_28 hlocks hQ
    · exact absurd (by decide) c_3

def v_c_moves0 : List Cond := .code yX11_moves cX11_moves 2 (some .int) :: ([.fieldLink RX11 61 "SlopeRunner" "latest" "LSlopeRunner$Tape;"] ++ ((wsV RX11 221 RX8 yX8_hasResult v_c_Tape_hasResult) ++ wsX110))
theorem g_c_moves0_0 : GoodIn v_c_moves0 (wsV RX11 221 RX8 yX8_hasResult v_c_Tape_hasResult) := goodIn_sub (fun w h => List.mem_cons_of_mem _ (List.mem_append_right _ (List.mem_append_left _ h))) (by decide +kernel)
set_option maxHeartbeats 4000000 in
set_option maxRecDepth 100000 in
theorem c_moves0 (l : Launch) (D : va_G) (y : Nat → ClassId) (sz : Nat) (x0 t0 p0 n0 m0 s0 r0 k0 h0 w0 g0 e0 : Nat) (a0 a1 a2 a3 a4 : Nat) (k : Int32) : Met l yX11_moves v_c_moves0 ({ frames := 1, cells := 0, slots := 0, locals := 21 } : Room) (va_Pc [.ref x0, .int k] (xPre D (xT y) [(x0, .inr (10, [.ref t0, .ref p0, .ref n0, .ref m0, .ref s0, .ref r0, .ref k0, .ref h0, .ref w0, .ref g0, .ref e0])), (h0, .inr (7, [.ref a0, .ref a1, .ref a2, .ref a3, .ref a4, .int (-1), .int 0, .int 0, .int 0, .int 0, .int 0, .int 0, .long 0]))] sz)) (va_Qi (fun (r : Int32) (_ : Unit) => r = -1) (fun (u : Unit) => xB D (xT y) (va_A [(x0, .inr (10, [.ref t0, .ref p0, .ref n0, .ref m0, .ref s0, .ref r0, .ref k0, .ref h0, .ref w0, .ref g0, .ref e0])), (h0, .inr (7, [.ref a0, .ref a1, .ref a2, .ref a3, .ref a4, .int (-1), .int 0, .int 0, .int 0, .int 0, .int 0, .int 0, .long 0]))] sz) [(x0, .inr (10, [.ref t0, .ref p0, .ref n0, .ref m0, .ref s0, .ref r0, .ref k0, .ref h0, .ref w0, .ref g0, .ref e0])), (h0, .inr (7, [.ref a0, .ref a1, .ref a2, .ref a3, .ref a4, .int (-1), .int 0, .int 0, .int 0, .int 0, .int 0, .int 0, .long 0]))]) (va_A [(x0, .inr (10, [.ref t0, .ref p0, .ref n0, .ref m0, .ref s0, .ref r0, .ref k0, .ref h0, .ref w0, .ref g0, .ref e0])), (h0, .inr (7, [.ref a0, .ref a1, .ref a2, .ref a3, .ref a4, .int (-1), .int 0, .int 0, .int 0, .int 0, .int 0, .int 0, .long 0]))] sz)) 0 0 (va_A [(x0, .inr (10, [.ref t0, .ref p0, .ref n0, .ref m0, .ref s0, .ref r0, .ref k0, .ref h0, .ref w0, .ref g0, .ref e0])), (h0, .inr (7, [.ref a0, .ref a1, .ref a2, .ref a3, .ref a4, .int (-1), .int 0, .int 0, .int 0, .int 0, .int 0, .int 0, .long 0]))] sz) := by
  refine x_meti (cc := cX11_moves) (maxL := 2) (by decide) rfl (Nat.le_of_ble_eq_true rfl) ?_
  intro p e s m below meth c A H locs Q hx hb hml hown hts hr hlocks hmn hA hP hK hD hS ls hl hQ
  have hl : lv_has ls 2 [(0, .ref x0), (1, .int k)] := hl
  have fl61 := hts (.fieldLink RX11 61 "SlopeRunner" "latest" "LSlopeRunner$Tape;") (by decide +kernel)
  have inX11 : ∀ w ∈ wsX110, w ∈ v_c_moves0 := (fun w h => List.mem_cons_of_mem _ (List.mem_append_right _ (List.mem_append_right _ h)))
  refine lv_aload_n hx hb dX11_moves_0 rfl (lv_at hl 0 rfl) ?_
  refine va_get (D := D) (ci := 10) (v := .ref h0) (C := RX11) (T := TX11) (N := 11) hx hb hts inX11 hown hK hP 0 rfl rfl 7 (by decide) fl61 (fun _ h9 => h9) rfl dX11_moves_1 ?_
  refine lv_iload_n hx hb dX11_moves_4 rfl (lv_at hl 1 rfl) ?_
  refine x_calli (w1 := fun (u : Unit) => [(h0, .inr (7, [.ref a0, .ref a1, .ref a2, .ref a3, .ref a4, .int (-1), .int 0, .int 0, .int 0, .int 0, .int 0, .int 0, .long 0]))]) (wr := [(x0, .inr (10, [.ref t0, .ref p0, .ref n0, .ref m0, .ref s0, .ref r0, .ref k0, .ref h0, .ref w0, .ref g0, .ref e0]))]) (ws' := fun (u : Unit) => [(x0, .inr (10, [.ref t0, .ref p0, .ref n0, .ref m0, .ref s0, .ref r0, .ref k0, .ref h0, .ref w0, .ref g0, .ref e0])), (h0, .inr (7, [.ref a0, .ref a1, .ref a2, .ref a3, .ref a4, .int (-1), .int 0, .int 0, .int 0, .int 0, .int 0, .int 0, .long 0]))]) (va_runV (As := [.int k]) (rest := []) ⟨hx, hb, hml, hown, hts⟩ (c_Tape_hasResult l D y H.size h0 a0 a1 a2 a3 a4 (-1) 0 0 0 0 0 0 0 k) (cwV 1 hts g_c_moves0_0 rfl rfl rfl (by decide +kernel) ⟨Nat.le_of_ble_eq_true rfl, Nat.le_of_ble_eq_true rfl⟩) (x_preV (q := (RX8, TX8, 13)) hK (x_subP hP [1] rfl) (x_subD hD [1] rfl (by decide)) (ci := 7) (q0 := 0) rfl rfl) rfl rfl hl.1 rfl (lv_room (Nat.le_of_ble_eq_true rfl)) dX11_moves_5 ⟨Nat.le_of_ble_eq_true rfl, Nat.le_of_ble_eq_true rfl⟩) hP hD hS hA [1] [0] rfl rfl (by decide) (by decide) [0, 1] (fun _ => rfl) (by decide) (fun r_1 u H locs hw hP hD hS => ?_)
  try dsimp only at hw
  have hP : va_P D vwCl [(x0, .inr (10, [.ref t0, .ref p0, .ref n0, .ref m0, .ref s0, .ref r0, .ref k0, .ref h0, .ref w0, .ref g0, .ref e0])), (h0, .inr (7, [.ref a0, .ref a1, .ref a2, .ref a3, .ref a4, .int (-1), .int 0, .int 0, .int 0, .int 0, .int 0, .int 0, .long 0]))] H := hP
  have hD : va_D A [(x0, .inr (10, [.ref t0, .ref p0, .ref n0, .ref m0, .ref s0, .ref r0, .ref k0, .ref h0, .ref w0, .ref g0, .ref e0])), (h0, .inr (7, [.ref a0, .ref a1, .ref a2, .ref a3, .ref a4, .int (-1), .int 0, .int 0, .int 0, .int 0, .int 0, .int 0, .long 0]))] := hD
  rcases hw with ⟨rfl, g_2⟩ | ⟨rfl, g_2⟩
  · exact absurd g_2 (by (try dsimp only); (try simp only [lg_cmp_lt, lg_cmp_le, lg_cmp_gt, lg_cmp_ge] at *); (try simp only [x_lt, x_le, Int32.reduceToInt, x_ltL, x_leL, Int64.reduceToInt] at *); omega)
  · refine lv_if_eq (tgt := 26) hx hb dX11_moves_8 (by decide) (fun c_3 => ?_) (fun c_3 => ?_)
    · refine lv_iconst (v := (-1)) hx hb dX11_moves_26 (by decide) ?_
      exact x_iret (v := (-1)) (u := ()) hx hb hr rfl hP hD hK hS [0, 1] rfl (by decide) dX11_moves_27 hlocks hQ
    · exact absurd (by decide) c_3

def v_c_ways0 : List Cond := .code yX11_ways cX11_ways 3 (some .int) :: ([.fieldLink RX11 61 "SlopeRunner" "latest" "LSlopeRunner$Tape;"] ++ ((wsV RX11 189 RX8 yX8_hasBoth v_c_Tape_hasBoth) ++ wsX110))
theorem g_c_ways0_0 : GoodIn v_c_ways0 (wsV RX11 189 RX8 yX8_hasBoth v_c_Tape_hasBoth) := goodIn_sub (fun w h => List.mem_cons_of_mem _ (List.mem_append_right _ (List.mem_append_left _ h))) (by decide +kernel)
set_option maxHeartbeats 4000000 in
set_option maxRecDepth 100000 in
theorem c_ways0 (l : Launch) (D : va_G) (y : Nat → ClassId) (sz : Nat) (x0 t0 p0 n0 m0 s0 r0 k0 h0 w0 g0 e0 : Nat) (a0 a1 a2 a3 a4 : Nat) (k i : Int32) : Met l yX11_ways v_c_ways0 ({ frames := 2, cells := 0, slots := 0, locals := 43 } : Room) (va_Pc [.ref x0, .int k, .int i] (xPre D (xT y) [(x0, .inr (10, [.ref t0, .ref p0, .ref n0, .ref m0, .ref s0, .ref r0, .ref k0, .ref h0, .ref w0, .ref g0, .ref e0])), (h0, .inr (7, [.ref a0, .ref a1, .ref a2, .ref a3, .ref a4, .int (-1), .int 0, .int 0, .int 0, .int 0, .int 0, .int 0, .long 0]))] sz)) (va_Qi (fun (r : Int32) (_ : Unit) => r = -1) (fun (u : Unit) => xB D (xT y) (va_A [(x0, .inr (10, [.ref t0, .ref p0, .ref n0, .ref m0, .ref s0, .ref r0, .ref k0, .ref h0, .ref w0, .ref g0, .ref e0])), (h0, .inr (7, [.ref a0, .ref a1, .ref a2, .ref a3, .ref a4, .int (-1), .int 0, .int 0, .int 0, .int 0, .int 0, .int 0, .long 0]))] sz) [(x0, .inr (10, [.ref t0, .ref p0, .ref n0, .ref m0, .ref s0, .ref r0, .ref k0, .ref h0, .ref w0, .ref g0, .ref e0])), (h0, .inr (7, [.ref a0, .ref a1, .ref a2, .ref a3, .ref a4, .int (-1), .int 0, .int 0, .int 0, .int 0, .int 0, .int 0, .long 0]))]) (va_A [(x0, .inr (10, [.ref t0, .ref p0, .ref n0, .ref m0, .ref s0, .ref r0, .ref k0, .ref h0, .ref w0, .ref g0, .ref e0])), (h0, .inr (7, [.ref a0, .ref a1, .ref a2, .ref a3, .ref a4, .int (-1), .int 0, .int 0, .int 0, .int 0, .int 0, .int 0, .long 0]))] sz)) 0 0 (va_A [(x0, .inr (10, [.ref t0, .ref p0, .ref n0, .ref m0, .ref s0, .ref r0, .ref k0, .ref h0, .ref w0, .ref g0, .ref e0])), (h0, .inr (7, [.ref a0, .ref a1, .ref a2, .ref a3, .ref a4, .int (-1), .int 0, .int 0, .int 0, .int 0, .int 0, .int 0, .long 0]))] sz) := by
  refine x_meti (cc := cX11_ways) (maxL := 3) (by decide) rfl (Nat.le_of_ble_eq_true rfl) ?_
  intro p e s m below meth c A H locs Q hx hb hml hown hts hr hlocks hmn hA hP hK hD hS ls hl hQ
  have hl : lv_has ls 3 [(0, .ref x0), (1, .int k), (2, .int i)] := hl
  have fl61 := hts (.fieldLink RX11 61 "SlopeRunner" "latest" "LSlopeRunner$Tape;") (by decide +kernel)
  have inX11 : ∀ w ∈ wsX110, w ∈ v_c_ways0 := (fun w h => List.mem_cons_of_mem _ (List.mem_append_right _ (List.mem_append_right _ h)))
  refine lv_aload_n hx hb dX11_ways_0 rfl (lv_at hl 0 rfl) ?_
  refine va_get (D := D) (ci := 10) (v := .ref h0) (C := RX11) (T := TX11) (N := 11) hx hb hts inX11 hown hK hP 0 rfl rfl 7 (by decide) fl61 (fun _ h9 => h9) rfl dX11_ways_1 ?_
  refine lv_iload_n hx hb dX11_ways_4 rfl (lv_at hl 1 rfl) ?_
  refine lv_iload_n hx hb dX11_ways_5 rfl (lv_at hl 2 rfl) ?_
  refine x_calli (w1 := fun (u : Unit) => [(h0, .inr (7, [.ref a0, .ref a1, .ref a2, .ref a3, .ref a4, .int (-1), .int 0, .int 0, .int 0, .int 0, .int 0, .int 0, .long 0]))]) (wr := [(x0, .inr (10, [.ref t0, .ref p0, .ref n0, .ref m0, .ref s0, .ref r0, .ref k0, .ref h0, .ref w0, .ref g0, .ref e0]))]) (ws' := fun (u : Unit) => [(x0, .inr (10, [.ref t0, .ref p0, .ref n0, .ref m0, .ref s0, .ref r0, .ref k0, .ref h0, .ref w0, .ref g0, .ref e0])), (h0, .inr (7, [.ref a0, .ref a1, .ref a2, .ref a3, .ref a4, .int (-1), .int 0, .int 0, .int 0, .int 0, .int 0, .int 0, .long 0]))]) (va_runV (As := [.int k, .int i]) (rest := []) ⟨hx, hb, hml, hown, hts⟩ (c_Tape_hasBoth l D y H.size h0 a0 a1 a2 a3 a4 (-1) 0 0 0 0 0 0 0 k i) (cwV 2 hts g_c_ways0_0 rfl rfl rfl (by decide +kernel) ⟨Nat.le_of_ble_eq_true rfl, Nat.le_of_ble_eq_true rfl⟩) (x_preV (q := (RX8, TX8, 13)) hK (x_subP hP [1] rfl) (x_subD hD [1] rfl (by decide)) (ci := 7) (q0 := 0) rfl rfl) rfl rfl hl.1 rfl (lv_room (Nat.le_of_ble_eq_true rfl)) dX11_ways_6 ⟨Nat.le_of_ble_eq_true rfl, Nat.le_of_ble_eq_true rfl⟩) hP hD hS hA [1] [0] rfl rfl (by decide) (by decide) [0, 1] (fun _ => rfl) (by decide) (fun r_1 u H locs hw hP hD hS => ?_)
  try dsimp only at hw
  have hP : va_P D vwCl [(x0, .inr (10, [.ref t0, .ref p0, .ref n0, .ref m0, .ref s0, .ref r0, .ref k0, .ref h0, .ref w0, .ref g0, .ref e0])), (h0, .inr (7, [.ref a0, .ref a1, .ref a2, .ref a3, .ref a4, .int (-1), .int 0, .int 0, .int 0, .int 0, .int 0, .int 0, .long 0]))] H := hP
  have hD : va_D A [(x0, .inr (10, [.ref t0, .ref p0, .ref n0, .ref m0, .ref s0, .ref r0, .ref k0, .ref h0, .ref w0, .ref g0, .ref e0])), (h0, .inr (7, [.ref a0, .ref a1, .ref a2, .ref a3, .ref a4, .int (-1), .int 0, .int 0, .int 0, .int 0, .int 0, .int 0, .long 0]))] := hD
  rcases hw with ⟨rfl, g_2⟩ | ⟨rfl, g_2⟩
  · exact absurd g_2 (by (try dsimp only); (try simp only [lg_cmp_lt, lg_cmp_le, lg_cmp_gt, lg_cmp_ge] at *); (try simp only [x_lt, x_le, Int32.reduceToInt, x_ltL, x_leL, Int64.reduceToInt] at *); omega)
  · refine lv_if_eq (tgt := 28) hx hb dX11_ways_9 (by decide) (fun c_3 => ?_) (fun c_3 => ?_)
    · refine lv_iconst (v := (-1)) hx hb dX11_ways_28 (by decide) ?_
      exact x_iret (v := (-1)) (u := ()) hx hb hr rfl hP hD hK hS [0, 1] rfl (by decide) dX11_ways_29 hlocks hQ
    · exact absurd (by decide) c_3

def v_c_groups0 : List Cond := .code yX11_groups cX11_groups 2 (some .int) :: ([.fieldLink RX11 61 "SlopeRunner" "latest" "LSlopeRunner$Tape;", .fieldLink RX11 168 "SlopeRunner$Tape" "state" "I"] ++ (wsX110 ++ wsX80))
set_option maxHeartbeats 4000000 in
set_option maxRecDepth 100000 in
theorem c_groups0 (l : Launch) (D : va_G) (y : Nat → ClassId) (sz : Nat) (x0 t0 p0 n0 m0 s0 r0 k0 h0 w0 g0 e0 : Nat) (a0 a1 a2 a3 a4 : Nat) : Met l yX11_groups v_c_groups0 ({ frames := 0, cells := 0, slots := 0, locals := 0 } : Room) (va_Pc [.ref x0] (xPre D (xT y) [(x0, .inr (10, [.ref t0, .ref p0, .ref n0, .ref m0, .ref s0, .ref r0, .ref k0, .ref h0, .ref w0, .ref g0, .ref e0])), (h0, .inr (7, [.ref a0, .ref a1, .ref a2, .ref a3, .ref a4, .int (-1), .int 0, .int 0, .int 0, .int 0, .int 0, .int 0, .long 0]))] sz)) (va_Qi (fun (r : Int32) (_ : Unit) => r = -1) (fun (u : Unit) => xB D (xT y) (va_A [(x0, .inr (10, [.ref t0, .ref p0, .ref n0, .ref m0, .ref s0, .ref r0, .ref k0, .ref h0, .ref w0, .ref g0, .ref e0])), (h0, .inr (7, [.ref a0, .ref a1, .ref a2, .ref a3, .ref a4, .int (-1), .int 0, .int 0, .int 0, .int 0, .int 0, .int 0, .long 0]))] sz) [(x0, .inr (10, [.ref t0, .ref p0, .ref n0, .ref m0, .ref s0, .ref r0, .ref k0, .ref h0, .ref w0, .ref g0, .ref e0])), (h0, .inr (7, [.ref a0, .ref a1, .ref a2, .ref a3, .ref a4, .int (-1), .int 0, .int 0, .int 0, .int 0, .int 0, .int 0, .long 0]))]) (va_A [(x0, .inr (10, [.ref t0, .ref p0, .ref n0, .ref m0, .ref s0, .ref r0, .ref k0, .ref h0, .ref w0, .ref g0, .ref e0])), (h0, .inr (7, [.ref a0, .ref a1, .ref a2, .ref a3, .ref a4, .int (-1), .int 0, .int 0, .int 0, .int 0, .int 0, .int 0, .long 0]))] sz)) 0 0 (va_A [(x0, .inr (10, [.ref t0, .ref p0, .ref n0, .ref m0, .ref s0, .ref r0, .ref k0, .ref h0, .ref w0, .ref g0, .ref e0])), (h0, .inr (7, [.ref a0, .ref a1, .ref a2, .ref a3, .ref a4, .int (-1), .int 0, .int 0, .int 0, .int 0, .int 0, .int 0, .long 0]))] sz) := by
  refine x_meti (cc := cX11_groups) (maxL := 2) (by decide) rfl (Nat.le_of_ble_eq_true rfl) ?_
  intro p e s m below meth c A H locs Q hx hb hml hown hts hr hlocks hmn hA hP hK hD hS ls hl hQ
  have hl : lv_has ls 2 [(0, .ref x0)] := hl
  have fl61 := hts (.fieldLink RX11 61 "SlopeRunner" "latest" "LSlopeRunner$Tape;") (by decide +kernel)
  have inX11 : ∀ w ∈ wsX110, w ∈ v_c_groups0 := (fun w h => List.mem_cons_of_mem _ (List.mem_append_right _ (List.mem_append_left _ h)))
  have fl168 := hts (.fieldLink RX11 168 "SlopeRunner$Tape" "state" "I") (by decide +kernel)
  have inX8 : ∀ w ∈ wsX80, w ∈ v_c_groups0 := (fun w h => List.mem_cons_of_mem _ (List.mem_append_right _ (List.mem_append_right _ h)))
  refine lv_aload_n hx hb dX11_groups_0 rfl (lv_at hl 0 rfl) ?_
  refine va_get (D := D) (ci := 10) (v := .ref h0) (C := RX11) (T := TX11) (N := 11) hx hb hts inX11 hown hK hP 0 rfl rfl 7 (by decide) fl61 (fun _ h9 => h9) rfl dX11_groups_1 ?_
  refine va_get (D := D) (ci := 7) (v := .int (-1)) (C := RX8) (T := TX8) (N := 13) hx hb hts inX8 hown hK hP 1 rfl rfl 5 (by decide) fl168 (fun _ h9 => h9) rfl dX11_groups_4 ?_
  refine lv_iconst (v := (-1)) hx hb dX11_groups_7 (by decide) ?_
  refine lv_icmp_ne (tgt := 13) hx hb dX11_groups_8 (by decide) (fun c_1 => ?_) (fun c_1 => ?_)
  · exact absurd (by decide) c_1
  · refine lv_iconst (v := (-1)) hx hb dX11_groups_11 (by decide) ?_
    exact x_iret (v := (-1)) (u := ()) hx hb hr rfl hP hD hK hS [0, 1] rfl (by decide) dX11_groups_12 hlocks hQ

def v_c_group0 : List Cond := .code yX11_group cX11_group 2 (some .int) :: ([.fieldLink RX11 47 "SlopeRunner" "grouping" "LSlopeRunner$Grouping;"] ++ ((wsV RX11 240 RX1 yX1_groupOf v_c_Grouping_groupOf) ++ wsX110))
theorem g_c_group0_0 : GoodIn v_c_group0 (wsV RX11 240 RX1 yX1_groupOf v_c_Grouping_groupOf) := goodIn_sub (fun w h => List.mem_cons_of_mem _ (List.mem_append_right _ (List.mem_append_left _ h))) (by decide +kernel)
set_option maxHeartbeats 4000000 in
set_option maxRecDepth 100000 in
theorem c_group0 (l : Launch) (D : va_G) (y : Nat → ClassId) (sz : Nat) (x0 t0 p0 n0 m0 s0 r0 k0 h0 w0 g0 e0 : Nat) (j0 j1 : Nat) (f : Nat → Int32) (k : Int32) : Met l yX11_group v_c_group0 ({ frames := 1, cells := 0, slots := 0, locals := 21 } : Room) (va_Pc [.ref x0, .int k] (xPre D (xT y) [(x0, .inr (10, [.ref t0, .ref p0, .ref n0, .ref m0, .ref s0, .ref r0, .ref k0, .ref h0, .ref w0, .ref g0, .ref e0])), (r0, .inr (0, [.ref j0, .ref j1, .int 0])), (j0, .inl (y 2, 8, .inl f))] sz)) (va_Qi (fun (r : Int32) (_ : Unit) => r = -1) (fun (u : Unit) => xB D (xT y) (va_A [(x0, .inr (10, [.ref t0, .ref p0, .ref n0, .ref m0, .ref s0, .ref r0, .ref k0, .ref h0, .ref w0, .ref g0, .ref e0])), (r0, .inr (0, [.ref j0, .ref j1, .int 0])), (j0, .inl (y 2, 8, .inl f))] sz) [(x0, .inr (10, [.ref t0, .ref p0, .ref n0, .ref m0, .ref s0, .ref r0, .ref k0, .ref h0, .ref w0, .ref g0, .ref e0])), (r0, .inr (0, [.ref j0, .ref j1, .int 0])), (j0, .inl (y 2, 8, .inl f))]) (va_A [(x0, .inr (10, [.ref t0, .ref p0, .ref n0, .ref m0, .ref s0, .ref r0, .ref k0, .ref h0, .ref w0, .ref g0, .ref e0])), (r0, .inr (0, [.ref j0, .ref j1, .int 0])), (j0, .inl (y 2, 8, .inl f))] sz)) 0 0 (va_A [(x0, .inr (10, [.ref t0, .ref p0, .ref n0, .ref m0, .ref s0, .ref r0, .ref k0, .ref h0, .ref w0, .ref g0, .ref e0])), (r0, .inr (0, [.ref j0, .ref j1, .int 0])), (j0, .inl (y 2, 8, .inl f))] sz) := by
  refine x_meti (cc := cX11_group) (maxL := 2) (by decide) rfl (Nat.le_of_ble_eq_true rfl) ?_
  intro p e s m below meth c A H locs Q hx hb hml hown hts hr hlocks hmn hA hP hK hD hS ls hl hQ
  have hl : lv_has ls 2 [(0, .ref x0), (1, .int k)] := hl
  have fl47 := hts (.fieldLink RX11 47 "SlopeRunner" "grouping" "LSlopeRunner$Grouping;") (by decide +kernel)
  have inX11 : ∀ w ∈ wsX110, w ∈ v_c_group0 := (fun w h => List.mem_cons_of_mem _ (List.mem_append_right _ (List.mem_append_right _ h)))
  refine lv_aload_n hx hb dX11_group_0 rfl (lv_at hl 0 rfl) ?_
  refine va_get (D := D) (ci := 10) (v := .ref r0) (C := RX11) (T := TX11) (N := 11) hx hb hts inX11 hown hK hP 0 rfl rfl 5 (by decide) fl47 (fun _ h9 => h9) rfl dX11_group_1 ?_
  refine lv_iload_n hx hb dX11_group_4 rfl (lv_at hl 1 rfl) ?_
  refine x_calli (w1 := fun (u : Unit) => [(r0, .inr (0, [.ref j0, .ref j1, .int 0])), (j0, .inl (y 2, 8, .inl f))]) (wr := [(x0, .inr (10, [.ref t0, .ref p0, .ref n0, .ref m0, .ref s0, .ref r0, .ref k0, .ref h0, .ref w0, .ref g0, .ref e0]))]) (ws' := fun (u : Unit) => [(x0, .inr (10, [.ref t0, .ref p0, .ref n0, .ref m0, .ref s0, .ref r0, .ref k0, .ref h0, .ref w0, .ref g0, .ref e0])), (r0, .inr (0, [.ref j0, .ref j1, .int 0])), (j0, .inl (y 2, 8, .inl f))]) (va_runV (As := [.int k]) (rest := []) ⟨hx, hb, hml, hown, hts⟩ (c_Grouping_groupOf l D y H.size r0 j0 j1 0 f k (by decide)) (cwV 1 hts g_c_group0_0 rfl rfl rfl (by decide +kernel) ⟨Nat.le_of_ble_eq_true rfl, Nat.le_of_ble_eq_true rfl⟩) (x_preV (q := (RX1, TX1, 3)) hK (x_subP hP [1, 2] rfl) (x_subD hD [1, 2] rfl (by decide)) (ci := 0) (q0 := 0) rfl rfl) rfl rfl hl.1 rfl (lv_room (Nat.le_of_ble_eq_true rfl)) dX11_group_5 ⟨Nat.le_of_ble_eq_true rfl, Nat.le_of_ble_eq_true rfl⟩) hP hD hS hA [1, 2] [0] rfl rfl (by decide) (by decide) [0, 1, 2] (fun _ => rfl) (by decide) (fun r_1 u H locs hw hP hD hS => ?_)
  try dsimp only at hw
  have hP : va_P D vwCl [(x0, .inr (10, [.ref t0, .ref p0, .ref n0, .ref m0, .ref s0, .ref r0, .ref k0, .ref h0, .ref w0, .ref g0, .ref e0])), (r0, .inr (0, [.ref j0, .ref j1, .int 0])), (j0, .inl (y 2, 8, .inl f))] H := hP
  have hD : va_D A [(x0, .inr (10, [.ref t0, .ref p0, .ref n0, .ref m0, .ref s0, .ref r0, .ref k0, .ref h0, .ref w0, .ref g0, .ref e0])), (r0, .inr (0, [.ref j0, .ref j1, .int 0])), (j0, .inl (y 2, 8, .inl f))] := hD
  exact x_iret (v := r_1) (u := ()) hx hb hr (by rcases hw with ⟨e0, e1, e2⟩ | ⟨e0, e1⟩; (exact absurd (And.intro e0 e1) (by (try dsimp only); (try simp only [lg_cmp_lt, lg_cmp_le, lg_cmp_gt, lg_cmp_ge] at *); (try simp only [x_lt, x_le, Int32.reduceToInt, x_ltL, x_leL, Int64.reduceToInt] at *); omega)); exact e1) hP hD hK hS [0, 1, 2] rfl (by decide) dX11_group_8 hlocks hQ

def v_c_Parser_faultKindN : List Cond := .code yX5_faultKind cX5_faultKind 1 (some .int) :: ([.fieldLink RX5 22 "SlopeRunner$Parser" "kindOfFault" "I"] ++ wsX50)
set_option maxHeartbeats 4000000 in
set_option maxRecDepth 100000 in
theorem c_Parser_faultKindN (l : Launch) (D : va_G) (y : Nat → ClassId) (sz : Nat) (q0 q1 : Nat) (pa pk po pf pb pp : Int32) : Met l yX5_faultKind v_c_Parser_faultKindN ({ frames := 0, cells := 0, slots := 0, locals := 0 } : Room) (va_Pc [.ref q0] (xPre D (xT y) [(q0, .inr (4, [.ref q1, .null, .int pa, .int pk, .int po, .int pf, .int pb, .int pp]))] sz)) (va_Qi (fun (r : Int32) (_ : Unit) => r = pf) (fun (u : Unit) => xB D (xT y) (va_A [(q0, .inr (4, [.ref q1, .null, .int pa, .int pk, .int po, .int pf, .int pb, .int pp]))] sz) [(q0, .inr (4, [.ref q1, .null, .int pa, .int pk, .int po, .int pf, .int pb, .int pp]))]) (va_A [(q0, .inr (4, [.ref q1, .null, .int pa, .int pk, .int po, .int pf, .int pb, .int pp]))] sz)) 0 0 (va_A [(q0, .inr (4, [.ref q1, .null, .int pa, .int pk, .int po, .int pf, .int pb, .int pp]))] sz) := by
  refine x_meti (cc := cX5_faultKind) (maxL := 1) (by decide) rfl (Nat.le_of_ble_eq_true rfl) ?_
  intro p e s m below meth c A H locs Q hx hb hml hown hts hr hlocks hmn hA hP hK hD hS ls hl hQ
  have hl : lv_has ls 1 [(0, .ref q0)] := hl
  have fl22 := hts (.fieldLink RX5 22 "SlopeRunner$Parser" "kindOfFault" "I") (by decide +kernel)
  have inX5 : ∀ w ∈ wsX50, w ∈ v_c_Parser_faultKindN := (fun w h => List.mem_cons_of_mem _ (List.mem_append_right _ h))
  refine lv_aload_n hx hb dX5_faultKind_0 rfl (lv_at hl 0 rfl) ?_
  refine va_get (D := D) (ci := 4) (v := .int pf) (C := RX5) (T := TX5) (N := 8) hx hb hts inX5 hown hK hP 0 rfl rfl 5 (by decide) fl22 (fun _ h9 => h9) rfl dX5_faultKind_1 ?_
  exact x_iret (v := pf) (u := ()) hx hb hr rfl hP hD hK hS [0] rfl (by decide) dX5_faultKind_4 hlocks hQ

def v_c_Parser_faultPlaceN : List Cond := .code yX5_faultPlace cX5_faultPlace 1 (some .int) :: ([.fieldLink RX5 18 "SlopeRunner$Parser" "placeOfFault" "I"] ++ wsX50)
set_option maxHeartbeats 4000000 in
set_option maxRecDepth 100000 in
theorem c_Parser_faultPlaceN (l : Launch) (D : va_G) (y : Nat → ClassId) (sz : Nat) (q0 q1 : Nat) (pa pk po pf pb pp : Int32) : Met l yX5_faultPlace v_c_Parser_faultPlaceN ({ frames := 0, cells := 0, slots := 0, locals := 0 } : Room) (va_Pc [.ref q0] (xPre D (xT y) [(q0, .inr (4, [.ref q1, .null, .int pa, .int pk, .int po, .int pf, .int pb, .int pp]))] sz)) (va_Qi (fun (r : Int32) (_ : Unit) => r = pp) (fun (u : Unit) => xB D (xT y) (va_A [(q0, .inr (4, [.ref q1, .null, .int pa, .int pk, .int po, .int pf, .int pb, .int pp]))] sz) [(q0, .inr (4, [.ref q1, .null, .int pa, .int pk, .int po, .int pf, .int pb, .int pp]))]) (va_A [(q0, .inr (4, [.ref q1, .null, .int pa, .int pk, .int po, .int pf, .int pb, .int pp]))] sz)) 0 0 (va_A [(q0, .inr (4, [.ref q1, .null, .int pa, .int pk, .int po, .int pf, .int pb, .int pp]))] sz) := by
  refine x_meti (cc := cX5_faultPlace) (maxL := 1) (by decide) rfl (Nat.le_of_ble_eq_true rfl) ?_
  intro p e s m below meth c A H locs Q hx hb hml hown hts hr hlocks hmn hA hP hK hD hS ls hl hQ
  have hl : lv_has ls 1 [(0, .ref q0)] := hl
  have fl18 := hts (.fieldLink RX5 18 "SlopeRunner$Parser" "placeOfFault" "I") (by decide +kernel)
  have inX5 : ∀ w ∈ wsX50, w ∈ v_c_Parser_faultPlaceN := (fun w h => List.mem_cons_of_mem _ (List.mem_append_right _ h))
  refine lv_aload_n hx hb dX5_faultPlace_0 rfl (lv_at hl 0 rfl) ?_
  refine va_get (D := D) (ci := 4) (v := .int pp) (C := RX5) (T := TX5) (N := 8) hx hb hts inX5 hown hK hP 0 rfl rfl 7 (by decide) fl18 (fun _ h9 => h9) rfl dX5_faultPlace_1 ?_
  exact x_iret (v := pp) (u := ()) hx hb hr rfl hP hD hK hS [0] rfl (by decide) dX5_faultPlace_4 hlocks hQ

def v_c_fault0 : List Cond := .code yX11_fault cX11_fault 2 (some .int) :: ([.fieldLink RX11 19 "SlopeRunner" "parser" "LSlopeRunner$Parser;"] ++ ((wsV RX11 110 RX5 yX5_faultKind v_c_Parser_faultKindN) ++ ((wsV RX11 113 RX5 yX5_faultPlace v_c_Parser_faultPlaceN) ++ wsX110)))
theorem g_c_fault0_0 : GoodIn v_c_fault0 (wsV RX11 110 RX5 yX5_faultKind v_c_Parser_faultKindN) := goodIn_sub (fun w h => List.mem_cons_of_mem _ (List.mem_append_right _ (List.mem_append_left _ h))) (by decide +kernel)
theorem g_c_fault0_1 : GoodIn v_c_fault0 (wsV RX11 113 RX5 yX5_faultPlace v_c_Parser_faultPlaceN) := goodIn_sub (fun w h => List.mem_cons_of_mem _ (List.mem_append_right _ (List.mem_append_right _ (List.mem_append_left _ h)))) (by decide +kernel)
set_option maxHeartbeats 4000000 in
set_option maxRecDepth 100000 in
theorem c_fault0 (l : Launch) (D : va_G) (y : Nat → ClassId) (sz : Nat) (x0 t0 p0 n0 m0 s0 r0 k0 h0 w0 g0 e0 : Nat) (k1 : Nat) (pa pk po pf pb pp : Int32) (what : Int32) : Met l yX11_fault v_c_fault0 ({ frames := 1, cells := 0, slots := 0, locals := 20 } : Room) (va_Pc [.ref x0, .int what] (xPre D (xT y) [(x0, .inr (10, [.ref t0, .ref p0, .ref n0, .ref m0, .ref s0, .ref r0, .ref k0, .ref h0, .ref w0, .ref g0, .ref e0])), (p0, .inr (4, [.ref k1, .null, .int pa, .int pk, .int po, .int pf, .int pb, .int pp]))] sz)) (va_Qi (fun (r : Int32) (_ : Unit) => r = if what = 0 then pf else if what = 1 then pp else -1) (fun (u : Unit) => xB D (xT y) (va_A [(x0, .inr (10, [.ref t0, .ref p0, .ref n0, .ref m0, .ref s0, .ref r0, .ref k0, .ref h0, .ref w0, .ref g0, .ref e0])), (p0, .inr (4, [.ref k1, .null, .int pa, .int pk, .int po, .int pf, .int pb, .int pp]))] sz) [(x0, .inr (10, [.ref t0, .ref p0, .ref n0, .ref m0, .ref s0, .ref r0, .ref k0, .ref h0, .ref w0, .ref g0, .ref e0])), (p0, .inr (4, [.ref k1, .null, .int pa, .int pk, .int po, .int pf, .int pb, .int pp]))]) (va_A [(x0, .inr (10, [.ref t0, .ref p0, .ref n0, .ref m0, .ref s0, .ref r0, .ref k0, .ref h0, .ref w0, .ref g0, .ref e0])), (p0, .inr (4, [.ref k1, .null, .int pa, .int pk, .int po, .int pf, .int pb, .int pp]))] sz)) 0 0 (va_A [(x0, .inr (10, [.ref t0, .ref p0, .ref n0, .ref m0, .ref s0, .ref r0, .ref k0, .ref h0, .ref w0, .ref g0, .ref e0])), (p0, .inr (4, [.ref k1, .null, .int pa, .int pk, .int po, .int pf, .int pb, .int pp]))] sz) := by
  refine x_meti (cc := cX11_fault) (maxL := 2) (by decide) rfl (Nat.le_of_ble_eq_true rfl) ?_
  intro p e s m below meth c A H locs Q hx hb hml hown hts hr hlocks hmn hA hP hK hD hS ls hl hQ
  have hl : lv_has ls 2 [(0, .ref x0), (1, .int what)] := hl
  have fl19 := hts (.fieldLink RX11 19 "SlopeRunner" "parser" "LSlopeRunner$Parser;") (by decide +kernel)
  have inX11 : ∀ w ∈ wsX110, w ∈ v_c_fault0 := (fun w h => List.mem_cons_of_mem _ (List.mem_append_right _ (List.mem_append_right _ (List.mem_append_right _ h))))
  refine lv_iload_n hx hb dX11_fault_0 rfl (lv_at hl 1 rfl) ?_
  rcases (show what = 0 ∨ what = 1 ∨ (¬ what = 0 ∧ ¬ what = 1) by simp only [x_eq, Int32.reduceToInt]; omega) with rfl | rfl | ⟨g_1_0, g_1_1⟩
  · refine lv_lookup (tgt := 28) (off := 27) hx hb dX11_fault_1 (by decide) (by decide) (by decide) ?_
    refine lv_aload_n hx hb dX11_fault_28 rfl (lv_at hl 0 rfl) ?_
    refine va_get (D := D) (ci := 10) (v := .ref p0) (C := RX11) (T := TX11) (N := 11) hx hb hts inX11 hown hK hP 0 rfl rfl 1 (by decide) fl19 (fun _ h9 => h9) rfl dX11_fault_29 ?_
    refine x_calli (w1 := fun (u : Unit) => [(p0, .inr (4, [.ref k1, .null, .int pa, .int pk, .int po, .int pf, .int pb, .int pp]))]) (wr := [(x0, .inr (10, [.ref t0, .ref p0, .ref n0, .ref m0, .ref s0, .ref r0, .ref k0, .ref h0, .ref w0, .ref g0, .ref e0]))]) (ws' := fun (u : Unit) => [(x0, .inr (10, [.ref t0, .ref p0, .ref n0, .ref m0, .ref s0, .ref r0, .ref k0, .ref h0, .ref w0, .ref g0, .ref e0])), (p0, .inr (4, [.ref k1, .null, .int pa, .int pk, .int po, .int pf, .int pb, .int pp]))]) (va_runV (As := []) (rest := []) ⟨hx, hb, hml, hown, hts⟩ (c_Parser_faultKindN l D y H.size p0 k1 pa pk po pf pb pp) (cwV 0 hts g_c_fault0_0 rfl rfl rfl (by decide +kernel) ⟨Nat.le_of_ble_eq_true rfl, Nat.le_of_ble_eq_true rfl⟩) (x_preV (q := (RX5, TX5, 8)) hK (x_subP hP [1] rfl) (x_subD hD [1] rfl (by decide)) (ci := 4) (q0 := 0) rfl rfl) rfl rfl hl.1 rfl (lv_room (Nat.le_of_ble_eq_true rfl)) dX11_fault_32 ⟨Nat.le_of_ble_eq_true rfl, Nat.le_of_ble_eq_true rfl⟩) hP hD hS hA [1] [0] rfl rfl (by decide) (by decide) [0, 1] (fun _ => rfl) (by decide) (fun r_2 u H locs hw hP hD hS => ?_)
    try dsimp only at hw
    have hP : va_P D vwCl [(x0, .inr (10, [.ref t0, .ref p0, .ref n0, .ref m0, .ref s0, .ref r0, .ref k0, .ref h0, .ref w0, .ref g0, .ref e0])), (p0, .inr (4, [.ref k1, .null, .int pa, .int pk, .int po, .int pf, .int pb, .int pp]))] H := hP
    have hD : va_D A [(x0, .inr (10, [.ref t0, .ref p0, .ref n0, .ref m0, .ref s0, .ref r0, .ref k0, .ref h0, .ref w0, .ref g0, .ref e0])), (p0, .inr (4, [.ref k1, .null, .int pa, .int pk, .int po, .int pf, .int pb, .int pp]))] := hD
    exact x_iret (v := r_2) (u := ()) hx hb hr hw hP hD hK hS [0, 1] rfl (by decide) dX11_fault_35 hlocks hQ
  · refine lv_lookup (tgt := 36) (off := 35) hx hb dX11_fault_1 (by decide) (by decide) (by decide) ?_
    refine lv_aload_n hx hb dX11_fault_36 rfl (lv_at hl 0 rfl) ?_
    refine va_get (D := D) (ci := 10) (v := .ref p0) (C := RX11) (T := TX11) (N := 11) hx hb hts inX11 hown hK hP 0 rfl rfl 1 (by decide) fl19 (fun _ h9 => h9) rfl dX11_fault_37 ?_
    refine x_calli (w1 := fun (u : Unit) => [(p0, .inr (4, [.ref k1, .null, .int pa, .int pk, .int po, .int pf, .int pb, .int pp]))]) (wr := [(x0, .inr (10, [.ref t0, .ref p0, .ref n0, .ref m0, .ref s0, .ref r0, .ref k0, .ref h0, .ref w0, .ref g0, .ref e0]))]) (ws' := fun (u : Unit) => [(x0, .inr (10, [.ref t0, .ref p0, .ref n0, .ref m0, .ref s0, .ref r0, .ref k0, .ref h0, .ref w0, .ref g0, .ref e0])), (p0, .inr (4, [.ref k1, .null, .int pa, .int pk, .int po, .int pf, .int pb, .int pp]))]) (va_runV (As := []) (rest := []) ⟨hx, hb, hml, hown, hts⟩ (c_Parser_faultPlaceN l D y H.size p0 k1 pa pk po pf pb pp) (cwV 0 hts g_c_fault0_1 rfl rfl rfl (by decide +kernel) ⟨Nat.le_of_ble_eq_true rfl, Nat.le_of_ble_eq_true rfl⟩) (x_preV (q := (RX5, TX5, 8)) hK (x_subP hP [1] rfl) (x_subD hD [1] rfl (by decide)) (ci := 4) (q0 := 0) rfl rfl) rfl rfl hl.1 rfl (lv_room (Nat.le_of_ble_eq_true rfl)) dX11_fault_40 ⟨Nat.le_of_ble_eq_true rfl, Nat.le_of_ble_eq_true rfl⟩) hP hD hS hA [1] [0] rfl rfl (by decide) (by decide) [0, 1] (fun _ => rfl) (by decide) (fun r_3 u H locs hw hP hD hS => ?_)
    try dsimp only at hw
    have hP : va_P D vwCl [(x0, .inr (10, [.ref t0, .ref p0, .ref n0, .ref m0, .ref s0, .ref r0, .ref k0, .ref h0, .ref w0, .ref g0, .ref e0])), (p0, .inr (4, [.ref k1, .null, .int pa, .int pk, .int po, .int pf, .int pb, .int pp]))] H := hP
    have hD : va_D A [(x0, .inr (10, [.ref t0, .ref p0, .ref n0, .ref m0, .ref s0, .ref r0, .ref k0, .ref h0, .ref w0, .ref g0, .ref e0])), (p0, .inr (4, [.ref k1, .null, .int pa, .int pk, .int po, .int pf, .int pb, .int pp]))] := hD
    exact x_iret (v := r_3) (u := ()) hx hb hr hw hP hD hK hS [0, 1] rfl (by decide) dX11_fault_43 hlocks hQ
  · refine lv_lookup (tgt := 44) (off := 43) hx hb dX11_fault_1 (by decide) ((lv_osw g_1_0 rfl).trans ((lv_osw g_1_1 rfl).trans rfl)) (by decide) ?_
    refine lv_iconst (v := (-1)) hx hb dX11_fault_44 (by decide) ?_
    exact x_iret (v := (-1)) (u := ()) hx hb hr (by rw [if_neg g_1_0, if_neg g_1_1]) hP hD hK hS [0, 1] rfl (by decide) dX11_fault_45 hlocks hQ

