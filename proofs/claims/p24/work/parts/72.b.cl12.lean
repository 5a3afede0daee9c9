theorem dX11_answer_0 : decode cX11_answer 0 = .ok (.lload_n 0, 1) := by decide +kernel
theorem dX11_answer_1 : decode cX11_answer 1 = .ok (.lconst 0, 1) := by decide +kernel
theorem dX11_answer_2 : decode cX11_answer 2 = .ok (.lcmp, 1) := by decide +kernel
theorem dX11_answer_3 : decode cX11_answer 3 = .ok (.ifCond .ne 7, 3) := by decide +kernel
theorem dX11_answer_6 : decode cX11_answer 6 = .ok (.ldc2_w 192, 3) := by decide +kernel
theorem dX11_answer_9 : decode cX11_answer 9 = .ok (.lreturn, 1) := by decide +kernel
theorem dX11_answer_10 : decode cX11_answer 10 = .ok (.iload_n 2, 1) := by decide +kernel
theorem dX11_answer_11 : decode cX11_answer 11 = .ok (.ifCond .eq 10, 3) := by decide +kernel
theorem dX11_answer_14 : decode cX11_answer 14 = .ok (.lload_n 0, 1) := by decide +kernel
theorem dX11_answer_15 : decode cX11_answer 15 = .ok (.invokestatic 251, 3) := by decide +kernel
theorem dX11_answer_18 : decode cX11_answer 18 = .ok (.goto 7, 3) := by decide +kernel
theorem dX11_answer_21 : decode cX11_answer 21 = .ok (.lload_n 0, 1) := by decide +kernel
theorem dX11_answer_22 : decode cX11_answer 22 = .ok (.invokestatic 255, 3) := by decide +kernel
theorem dX11_answer_25 : decode cX11_answer 25 = .ok (.lreturn, 1) := by decide +kernel
theorem dX5_faultKind_0 : decode cX5_faultKind 0 = .ok (.aload_n 0, 1) := by decide +kernel
theorem dX5_faultKind_1 : decode cX5_faultKind 1 = .ok (.getfield 22, 3) := by decide +kernel
theorem dX5_faultKind_4 : decode cX5_faultKind 4 = .ok (.ireturn, 1) := by decide +kernel
theorem dX5_faultPlace_0 : decode cX5_faultPlace 0 = .ok (.aload_n 0, 1) := by decide +kernel
theorem dX5_faultPlace_1 : decode cX5_faultPlace 1 = .ok (.getfield 18, 3) := by decide +kernel
theorem dX5_faultPlace_4 : decode cX5_faultPlace 4 = .ok (.ireturn, 1) := by decide +kernel
theorem dX11_feed_0 : decode cX11_feed 0 = .ok (.aload_n 0, 1) := by decide +kernel
theorem dX11_feed_1 : decode cX11_feed 1 = .ok (.getfield 10, 3) := by decide +kernel
theorem dX11_feed_4 : decode cX11_feed 4 = .ok (.bipush 20, 2) := by decide +kernel
theorem dX11_feed_6 : decode cX11_feed 6 = .ok (.invokevirtual 78, 3) := by decide +kernel
theorem dX11_feed_9 : decode cX11_feed 9 = .ok (.ifCond .ne 5, 3) := by decide +kernel
theorem dX11_feed_12 : decode cX11_feed 12 = .ok (.iconst (-1), 1) := by decide +kernel
theorem dX11_feed_13 : decode cX11_feed 13 = .ok (.ireturn, 1) := by decide +kernel
theorem dX11_feed_14 : decode cX11_feed 14 = .ok (.aload_n 0, 1) := by decide +kernel
theorem dX11_feed_15 : decode cX11_feed 15 = .ok (.getfield 10, 3) := by decide +kernel
theorem dX11_feed_18 : decode cX11_feed 18 = .ok (.iload_n 1, 1) := by decide +kernel
theorem dX11_feed_19 : decode cX11_feed 19 = .ok (.invokevirtual 82, 3) := by decide +kernel
theorem dX11_feed_22 : decode cX11_feed 22 = .ok (.aload_n 0, 1) := by decide +kernel
theorem dX11_feed_23 : decode cX11_feed 23 = .ok (.getfield 10, 3) := by decide +kernel
theorem dX11_feed_26 : decode cX11_feed 26 = .ok (.iload_n 2, 1) := by decide +kernel
theorem dX11_feed_27 : decode cX11_feed 27 = .ok (.invokevirtual 82, 3) := by decide +kernel
theorem dX11_feed_30 : decode cX11_feed 30 = .ok (.aload_n 0, 1) := by decide +kernel
theorem dX11_feed_31 : decode cX11_feed 31 = .ok (.getfield 10, 3) := by decide +kernel
theorem dX11_feed_34 : decode cX11_feed 34 = .ok (.iload_n 3, 1) := by decide +kernel
theorem dX11_feed_35 : decode cX11_feed 35 = .ok (.invokevirtual 82, 3) := by decide +kernel
theorem dX11_feed_38 : decode cX11_feed 38 = .ok (.aload_n 0, 1) := by decide +kernel
theorem dX11_feed_39 : decode cX11_feed 39 = .ok (.getfield 10, 3) := by decide +kernel
theorem dX11_feed_42 : decode cX11_feed 42 = .ok (.iload 4, 2) := by decide +kernel
theorem dX11_feed_44 : decode cX11_feed 44 = .ok (.invokevirtual 82, 3) := by decide +kernel
theorem dX11_feed_47 : decode cX11_feed 47 = .ok (.aload_n 0, 1) := by decide +kernel
theorem dX11_feed_48 : decode cX11_feed 48 = .ok (.getfield 10, 3) := by decide +kernel
theorem dX11_feed_51 : decode cX11_feed 51 = .ok (.iload 5, 2) := by decide +kernel
theorem dX11_feed_53 : decode cX11_feed 53 = .ok (.invokevirtual 82, 3) := by decide +kernel
theorem dX11_feed_56 : decode cX11_feed 56 = .ok (.aload_n 0, 1) := by decide +kernel
theorem dX11_feed_57 : decode cX11_feed 57 = .ok (.getfield 10, 3) := by decide +kernel
theorem dX11_feed_60 : decode cX11_feed 60 = .ok (.invokevirtual 86, 3) := by decide +kernel
theorem dX11_feed_63 : decode cX11_feed 63 = .ok (.ireturn, 1) := by decide +kernel
theorem dX11_end_0 : decode cX11_end 0 = .ok (.aload_n 0, 1) := by decide +kernel
theorem dX11_end_1 : decode cX11_end 1 = .ok (.getfield 10, 3) := by decide +kernel
theorem dX11_end_4 : decode cX11_end 4 = .ok (.iload_n 1, 1) := by decide +kernel
theorem dX11_end_5 : decode cX11_end 5 = .ok (.invokevirtual 90, 3) := by decide +kernel
theorem dX11_end_8 : decode cX11_end 8 = .ok (.ireturn, 1) := by decide +kernel
theorem dX11_fault_0 : decode cX11_fault 0 = .ok (.iload_n 1, 1) := by decide +kernel
theorem dX11_fault_1 : decode cX11_fault 1 = .ok (.lookupswitch 43 #[(0, 27), (1, 35)], 27) := by decide +kernel
theorem dX11_fault_28 : decode cX11_fault 28 = .ok (.aload_n 0, 1) := by decide +kernel
theorem dX11_fault_29 : decode cX11_fault 29 = .ok (.getfield 19, 3) := by decide +kernel
theorem dX11_fault_32 : decode cX11_fault 32 = .ok (.invokevirtual 110, 3) := by decide +kernel
theorem dX11_fault_35 : decode cX11_fault 35 = .ok (.ireturn, 1) := by decide +kernel
theorem dX11_fault_36 : decode cX11_fault 36 = .ok (.aload_n 0, 1) := by decide +kernel
theorem dX11_fault_37 : decode cX11_fault 37 = .ok (.getfield 19, 3) := by decide +kernel
theorem dX11_fault_40 : decode cX11_fault 40 = .ok (.invokevirtual 113, 3) := by decide +kernel
theorem dX11_fault_43 : decode cX11_fault 43 = .ok (.ireturn, 1) := by decide +kernel
theorem dX11_fault_44 : decode cX11_fault 44 = .ok (.iconst (-1), 1) := by decide +kernel
theorem dX11_fault_45 : decode cX11_fault 45 = .ok (.ireturn, 1) := by decide +kernel
theorem dX11_has_0 : decode cX11_has 0 = .ok (.iload_n 1, 1) := by decide +kernel
theorem dX11_has_1 : decode cX11_has 1 = .ok (.tableswitch 75 0 4 #[35, 43, 51, 59, 67], 35) := by decide +kernel
theorem dX11_has_36 : decode cX11_has 36 = .ok (.aload_n 0, 1) := by decide +kernel
theorem dX11_has_37 : decode cX11_has 37 = .ok (.getfield 71, 3) := by decide +kernel
theorem dX11_has_40 : decode cX11_has 40 = .ok (.getfield 97, 3) := by decide +kernel
theorem dX11_has_43 : decode cX11_has 43 = .ok (.ireturn, 1) := by decide +kernel
theorem dX11_has_44 : decode cX11_has 44 = .ok (.aload_n 0, 1) := by decide +kernel
theorem dX11_has_45 : decode cX11_has 45 = .ok (.getfield 71, 3) := by decide +kernel
theorem dX11_has_48 : decode cX11_has 48 = .ok (.getfield 116, 3) := by decide +kernel
theorem dX11_has_51 : decode cX11_has 51 = .ok (.ireturn, 1) := by decide +kernel
theorem dX11_has_52 : decode cX11_has 52 = .ok (.aload_n 0, 1) := by decide +kernel
theorem dX11_has_53 : decode cX11_has 53 = .ok (.getfield 71, 3) := by decide +kernel
theorem dX11_has_56 : decode cX11_has 56 = .ok (.getfield 119, 3) := by decide +kernel
theorem dX11_has_59 : decode cX11_has 59 = .ok (.ireturn, 1) := by decide +kernel
theorem dX11_has_60 : decode cX11_has 60 = .ok (.aload_n 0, 1) := by decide +kernel
theorem dX11_has_61 : decode cX11_has 61 = .ok (.getfield 71, 3) := by decide +kernel
theorem dX11_has_64 : decode cX11_has 64 = .ok (.getfield 107, 3) := by decide +kernel
theorem dX11_has_67 : decode cX11_has 67 = .ok (.ireturn, 1) := by decide +kernel
theorem dX11_has_68 : decode cX11_has 68 = .ok (.aload_n 0, 1) := by decide +kernel
theorem dX11_has_69 : decode cX11_has 69 = .ok (.getfield 71, 3) := by decide +kernel
theorem dX11_has_72 : decode cX11_has 72 = .ok (.getfield 122, 3) := by decide +kernel
theorem dX11_has_75 : decode cX11_has 75 = .ok (.ireturn, 1) := by decide +kernel
theorem dX11_has_76 : decode cX11_has 76 = .ok (.iconst (-1), 1) := by decide +kernel
theorem dX11_has_77 : decode cX11_has 77 = .ok (.ireturn, 1) := by decide +kernel
theorem dX11_put_0 : decode cX11_put 0 = .ok (.aload_n 0, 1) := by decide +kernel
theorem dX11_put_1 : decode cX11_put 1 = .ok (.getfield 26, 3) := by decide +kernel
theorem dX11_put_4 : decode cX11_put 4 = .ok (.iload_n 1, 1) := by decide +kernel
theorem dX11_put_5 : decode cX11_put 5 = .ok (.invokevirtual 125, 3) := by decide +kernel
theorem dX11_put_8 : decode cX11_put 8 = .ok (.ifCond .eq 11, 3) := by decide +kernel
theorem dX11_put_11 : decode cX11_put 11 = .ok (.iload_n 2, 1) := by decide +kernel
theorem dX11_put_12 : decode cX11_put 12 = .ok (.iload_n 3, 1) := by decide +kernel
theorem dX11_put_13 : decode cX11_put 13 = .ok (.invokestatic 128, 3) := by decide +kernel
theorem dX11_put_16 : decode cX11_put 16 = .ok (.ifCond .ne 5, 3) := by decide +kernel
theorem dX11_put_19 : decode cX11_put 19 = .ok (.iconst 0, 1) := by decide +kernel
theorem dX11_put_20 : decode cX11_put 20 = .ok (.ireturn, 1) := by decide +kernel
theorem dX11_put_21 : decode cX11_put 21 = .ok (.aload_n 0, 1) := by decide +kernel
theorem dX11_put_22 : decode cX11_put 22 = .ok (.getfield 26, 3) := by decide +kernel
theorem dX11_put_25 : decode cX11_put 25 = .ok (.iload_n 1, 1) := by decide +kernel
theorem dX11_put_26 : decode cX11_put 26 = .ok (.iload_n 2, 1) := by decide +kernel
theorem dX11_put_27 : decode cX11_put 27 = .ok (.i2l, 1) := by decide +kernel
theorem dX11_put_28 : decode cX11_put 28 = .ok (.iload_n 3, 1) := by decide +kernel
theorem dX11_put_29 : decode cX11_put 29 = .ok (.i2l, 1) := by decide +kernel
theorem dX11_put_30 : decode cX11_put 30 = .ok (.invokestatic 134, 3) := by decide +kernel
theorem dX11_put_33 : decode cX11_put 33 = .ok (.invokevirtual 138, 3) := by decide +kernel
theorem dX11_put_36 : decode cX11_put 36 = .ok (.iconst 1, 1) := by decide +kernel
theorem dX11_put_37 : decode cX11_put 37 = .ok (.ireturn, 1) := by decide +kernel
theorem dX11_undo_0 : decode cX11_undo 0 = .ok (.aload_n 0, 1) := by decide +kernel
theorem dX11_undo_1 : decode cX11_undo 1 = .ok (.getfield 26, 3) := by decide +kernel
theorem dX11_undo_4 : decode cX11_undo 4 = .ok (.invokevirtual 142, 3) := by decide +kernel
theorem dX11_undo_7 : decode cX11_undo 7 = .ok (.ireturn, 1) := by decide +kernel
theorem dX11_redo_0 : decode cX11_redo 0 = .ok (.aload_n 0, 1) := by decide +kernel
theorem dX11_redo_1 : decode cX11_redo 1 = .ok (.getfield 26, 3) := by decide +kernel
theorem dX11_redo_4 : decode cX11_redo 4 = .ok (.invokevirtual 146, 3) := by decide +kernel
theorem dX11_redo_7 : decode cX11_redo 7 = .ok (.ireturn, 1) := by decide +kernel
theorem dX11_input_0 : decode cX11_input 0 = .ok (.aload_n 0, 1) := by decide +kernel
theorem dX11_input_1 : decode cX11_input 1 = .ok (.getfield 26, 3) := by decide +kernel
theorem dX11_input_4 : decode cX11_input 4 = .ok (.iload_n 1, 1) := by decide +kernel
theorem dX11_input_5 : decode cX11_input 5 = .ok (.invokevirtual 149, 3) := by decide +kernel
theorem dX11_input_8 : decode cX11_input 8 = .ok (.iload_n 2, 1) := by decide +kernel
theorem dX11_input_9 : decode cX11_input 9 = .ok (.invokestatic 153, 3) := by decide +kernel
theorem dX11_input_12 : decode cX11_input 12 = .ok (.lreturn, 1) := by decide +kernel
theorem dX11_run_0 : decode cX11_run 0 = .ok (.aload_n 0, 1) := by decide +kernel
theorem dX11_run_1 : decode cX11_run 1 = .ok (.getfield 61, 3) := by decide +kernel
theorem dX11_run_4 : decode cX11_run 4 = .ok (.aload_n 0, 1) := by decide +kernel
theorem dX11_run_5 : decode cX11_run 5 = .ok (.getfield 71, 3) := by decide +kernel
theorem dX11_run_8 : decode cX11_run 8 = .ok (.aload_n 0, 1) := by decide +kernel
theorem dX11_run_9 : decode cX11_run 9 = .ok (.getfield 26, 3) := by decide +kernel
theorem dX11_run_12 : decode cX11_run 12 = .ok (.getfield 157, 3) := by decide +kernel
theorem dX11_run_15 : decode cX11_run 15 = .ok (.invokevirtual 161, 3) := by decide +kernel
theorem dX11_run_18 : decode cX11_run 18 = .ok (.aload_n 0, 1) := by decide +kernel
theorem dX11_run_19 : decode cX11_run 19 = .ok (.getfield 33, 3) := by decide +kernel
theorem dX11_run_22 : decode cX11_run 22 = .ok (.aload_n 0, 1) := by decide +kernel
theorem dX11_run_23 : decode cX11_run 23 = .ok (.getfield 71, 3) := by decide +kernel
theorem dX11_run_26 : decode cX11_run 26 = .ok (.aload_n 0, 1) := by decide +kernel
theorem dX11_run_27 : decode cX11_run 27 = .ok (.getfield 61, 3) := by decide +kernel
theorem dX11_run_30 : decode cX11_run 30 = .ok (.invokevirtual 164, 3) := by decide +kernel
theorem dX11_run_33 : decode cX11_run 33 = .ok (.ireturn, 1) := by decide +kernel
theorem dX11_ran_0 : decode cX11_ran 0 = .ok (.aload_n 0, 1) := by decide +kernel
theorem dX11_ran_1 : decode cX11_ran 1 = .ok (.getfield 61, 3) := by decide +kernel
theorem dX11_ran_4 : decode cX11_ran 4 = .ok (.getfield 168, 3) := by decide +kernel
theorem dX11_ran_7 : decode cX11_ran 7 = .ok (.iconst (-1), 1) := by decide +kernel
theorem dX11_ran_8 : decode cX11_ran 8 = .ok (.if_icmp .ne 5, 3) := by decide +kernel
theorem dX11_ran_11 : decode cX11_ran 11 = .ok (.iconst (-1), 1) := by decide +kernel
theorem dX11_ran_12 : decode cX11_ran 12 = .ok (.ireturn, 1) := by decide +kernel
theorem dX11_ran_13 : decode cX11_ran 13 = .ok (.iload_n 1, 1) := by decide +kernel
theorem dX11_ran_14 : decode cX11_ran 14 = .ok (.tableswitch 62 0 3 #[30, 38, 46, 54], 30) := by decide +kernel
theorem dX11_ran_44 : decode cX11_ran 44 = .ok (.aload_n 0, 1) := by decide +kernel
theorem dX11_ran_45 : decode cX11_ran 45 = .ok (.getfield 61, 3) := by decide +kernel
theorem dX11_ran_48 : decode cX11_ran 48 = .ok (.getfield 171, 3) := by decide +kernel
theorem dX11_ran_51 : decode cX11_ran 51 = .ok (.ireturn, 1) := by decide +kernel
theorem dX11_ran_52 : decode cX11_ran 52 = .ok (.aload_n 0, 1) := by decide +kernel
theorem dX11_ran_53 : decode cX11_ran 53 = .ok (.getfield 61, 3) := by decide +kernel
theorem dX11_ran_56 : decode cX11_ran 56 = .ok (.getfield 174, 3) := by decide +kernel
theorem dX11_ran_59 : decode cX11_ran 59 = .ok (.ireturn, 1) := by decide +kernel
theorem dX11_ran_60 : decode cX11_ran 60 = .ok (.aload_n 0, 1) := by decide +kernel
theorem dX11_ran_61 : decode cX11_ran 61 = .ok (.getfield 61, 3) := by decide +kernel
theorem dX11_ran_64 : decode cX11_ran 64 = .ok (.getfield 176, 3) := by decide +kernel
theorem dX11_ran_67 : decode cX11_ran 67 = .ok (.ireturn, 1) := by decide +kernel
theorem dX11_ran_68 : decode cX11_ran 68 = .ok (.aload_n 0, 1) := by decide +kernel
theorem dX11_ran_69 : decode cX11_ran 69 = .ok (.getfield 61, 3) := by decide +kernel
theorem dX11_ran_72 : decode cX11_ran 72 = .ok (.getfield 179, 3) := by decide +kernel
theorem dX11_ran_75 : decode cX11_ran 75 = .ok (.ireturn, 1) := by decide +kernel
theorem dX11_ran_76 : decode cX11_ran 76 = .ok (.iconst (-1), 1) := by decide +kernel
theorem dX11_ran_77 : decode cX11_ran 77 = .ok (.ireturn, 1) := by decide +kernel
theorem dX11_result_0 : decode cX11_result 0 = .ok (.aload_n 0, 1) := by decide +kernel
theorem dX11_result_1 : decode cX11_result 1 = .ok (.getfield 61, 3) := by decide +kernel
theorem dX11_result_4 : decode cX11_result 4 = .ok (.iload_n 1, 1) := by decide +kernel
theorem dX11_result_5 : decode cX11_result 5 = .ok (.invokevirtual 182, 3) := by decide +kernel
theorem dX11_result_8 : decode cX11_result 8 = .ok (.iload_n 2, 1) := by decide +kernel
theorem dX11_result_9 : decode cX11_result 9 = .ok (.invokestatic 153, 3) := by decide +kernel
theorem dX11_result_12 : decode cX11_result 12 = .ok (.lreturn, 1) := by decide +kernel
theorem dX11_near_0 : decode cX11_near 0 = .ok (.aload_n 0, 1) := by decide +kernel
theorem dX11_near_1 : decode cX11_near 1 = .ok (.getfield 61, 3) := by decide +kernel
theorem dX11_near_4 : decode cX11_near 4 = .ok (.getfield 185, 3) := by decide +kernel
theorem dX11_near_7 : decode cX11_near 7 = .ok (.iload_n 1, 1) := by decide +kernel
theorem dX11_near_8 : decode cX11_near 8 = .ok (.invokestatic 153, 3) := by decide +kernel
theorem dX11_near_11 : decode cX11_near 11 = .ok (.lreturn, 1) := by decide +kernel
theorem dX11_forward_0 : decode cX11_forward 0 = .ok (.aload_n 0, 1) := by decide +kernel
theorem dX11_forward_1 : decode cX11_forward 1 = .ok (.getfield 61, 3) := by decide +kernel
theorem dX11_forward_4 : decode cX11_forward 4 = .ok (.iload_n 1, 1) := by decide +kernel
theorem dX11_forward_5 : decode cX11_forward 5 = .ok (.iload_n 2, 1) := by decide +kernel
theorem dX11_forward_6 : decode cX11_forward 6 = .ok (.invokevirtual 189, 3) := by decide +kernel
theorem dX11_forward_9 : decode cX11_forward 9 = .ok (.ifCond .ne 7, 3) := by decide +kernel
theorem dX11_forward_12 : decode cX11_forward 12 = .ok (.ldc2_w 192, 3) := by decide +kernel
theorem dX11_forward_15 : decode cX11_forward 15 = .ok (.lreturn, 1) := by decide +kernel
theorem dX11_forward_16 : decode cX11_forward 16 = .ok (.aload_n 0, 1) := by decide +kernel
theorem dX11_forward_17 : decode cX11_forward 17 = .ok (.getfield 40, 3) := by decide +kernel
theorem dX11_forward_20 : decode cX11_forward 20 = .ok (.aload_n 0, 1) := by decide +kernel
theorem dX11_forward_21 : decode cX11_forward 21 = .ok (.getfield 61, 3) := by decide +kernel
theorem dX11_forward_24 : decode cX11_forward 24 = .ok (.iload_n 1, 1) := by decide +kernel
theorem dX11_forward_25 : decode cX11_forward 25 = .ok (.iload_n 2, 1) := by decide +kernel
theorem dX11_forward_26 : decode cX11_forward 26 = .ok (.invokevirtual 194, 3) := by decide +kernel
theorem dX11_forward_29 : decode cX11_forward 29 = .ok (.iload_n 3, 1) := by decide +kernel
theorem dX11_forward_30 : decode cX11_forward 30 = .ok (.invokestatic 153, 3) := by decide +kernel
theorem dX11_forward_33 : decode cX11_forward 33 = .ok (.lreturn, 1) := by decide +kernel
theorem dX11_backward_0 : decode cX11_backward 0 = .ok (.aload_n 0, 1) := by decide +kernel
theorem dX11_backward_1 : decode cX11_backward 1 = .ok (.getfield 61, 3) := by decide +kernel
theorem dX11_backward_4 : decode cX11_backward 4 = .ok (.iload_n 1, 1) := by decide +kernel
theorem dX11_backward_5 : decode cX11_backward 5 = .ok (.iload_n 2, 1) := by decide +kernel
theorem dX11_backward_6 : decode cX11_backward 6 = .ok (.invokevirtual 189, 3) := by decide +kernel
theorem dX11_backward_9 : decode cX11_backward 9 = .ok (.ifCond .ne 7, 3) := by decide +kernel
theorem dX11_backward_12 : decode cX11_backward 12 = .ok (.ldc2_w 192, 3) := by decide +kernel
theorem dX11_backward_15 : decode cX11_backward 15 = .ok (.lreturn, 1) := by decide +kernel
theorem dX11_backward_16 : decode cX11_backward 16 = .ok (.aload_n 0, 1) := by decide +kernel
theorem dX11_backward_17 : decode cX11_backward 17 = .ok (.getfield 40, 3) := by decide +kernel
theorem dX11_backward_20 : decode cX11_backward 20 = .ok (.aload_n 0, 1) := by decide +kernel
theorem dX11_backward_21 : decode cX11_backward 21 = .ok (.getfield 61, 3) := by decide +kernel
theorem dX11_backward_24 : decode cX11_backward 24 = .ok (.iload_n 1, 1) := by decide +kernel
theorem dX11_backward_25 : decode cX11_backward 25 = .ok (.iload_n 2, 1) := by decide +kernel
theorem dX11_backward_26 : decode cX11_backward 26 = .ok (.invokevirtual 198, 3) := by decide +kernel
theorem dX11_backward_29 : decode cX11_backward 29 = .ok (.iload_n 3, 1) := by decide +kernel
theorem dX11_backward_30 : decode cX11_backward 30 = .ok (.invokestatic 153, 3) := by decide +kernel
theorem dX11_backward_33 : decode cX11_backward 33 = .ok (.lreturn, 1) := by decide +kernel
theorem dX11_twice_0 : decode cX11_twice 0 = .ok (.aload_n 0, 1) := by decide +kernel
theorem dX11_twice_1 : decode cX11_twice 1 = .ok (.getfield 61, 3) := by decide +kernel
theorem dX11_twice_4 : decode cX11_twice 4 = .ok (.iload_n 1, 1) := by decide +kernel
theorem dX11_twice_5 : decode cX11_twice 5 = .ok (.iload_n 2, 1) := by decide +kernel
theorem dX11_twice_6 : decode cX11_twice 6 = .ok (.invokevirtual 189, 3) := by decide +kernel
theorem dX11_twice_9 : decode cX11_twice 9 = .ok (.ifCond .eq 15, 3) := by decide +kernel
theorem dX11_twice_12 : decode cX11_twice 12 = .ok (.aload_n 0, 1) := by decide +kernel
theorem dX11_twice_13 : decode cX11_twice 13 = .ok (.getfield 61, 3) := by decide +kernel
theorem dX11_twice_16 : decode cX11_twice 16 = .ok (.iload_n 1, 1) := by decide +kernel
theorem dX11_twice_17 : decode cX11_twice 17 = .ok (.iload_n 3, 1) := by decide +kernel
theorem dX11_twice_18 : decode cX11_twice 18 = .ok (.invokevirtual 189, 3) := by decide +kernel
theorem dX11_twice_21 : decode cX11_twice 21 = .ok (.ifCond .ne 7, 3) := by decide +kernel
theorem dX11_twice_24 : decode cX11_twice 24 = .ok (.ldc2_w 192, 3) := by decide +kernel
theorem dX11_twice_27 : decode cX11_twice 27 = .ok (.lreturn, 1) := by decide +kernel
theorem dX11_twice_28 : decode cX11_twice 28 = .ok (.aload_n 0, 1) := by decide +kernel
theorem dX11_twice_29 : decode cX11_twice 29 = .ok (.getfield 40, 3) := by decide +kernel
theorem dX11_twice_32 : decode cX11_twice 32 = .ok (.aload_n 0, 1) := by decide +kernel
theorem dX11_twice_33 : decode cX11_twice 33 = .ok (.getfield 61, 3) := by decide +kernel
theorem dX11_twice_36 : decode cX11_twice 36 = .ok (.iload_n 1, 1) := by decide +kernel
theorem dX11_twice_37 : decode cX11_twice 37 = .ok (.iload_n 2, 1) := by decide +kernel
theorem dX11_twice_38 : decode cX11_twice 38 = .ok (.iload_n 3, 1) := by decide +kernel
theorem dX11_twice_39 : decode cX11_twice 39 = .ok (.invokevirtual 201, 3) := by decide +kernel
theorem dX11_twice_42 : decode cX11_twice 42 = .ok (.iload 4, 2) := by decide +kernel
theorem dX11_twice_44 : decode cX11_twice 44 = .ok (.invokestatic 153, 3) := by decide +kernel
theorem dX11_twice_47 : decode cX11_twice 47 = .ok (.lreturn, 1) := by decide +kernel
theorem dX11_moves_0 : decode cX11_moves 0 = .ok (.aload_n 0, 1) := by decide +kernel
theorem dX11_moves_1 : decode cX11_moves 1 = .ok (.getfield 61, 3) := by decide +kernel
theorem dX11_moves_4 : decode cX11_moves 4 = .ok (.iload_n 1, 1) := by decide +kernel
theorem dX11_moves_5 : decode cX11_moves 5 = .ok (.invokevirtual 221, 3) := by decide +kernel
theorem dX11_moves_8 : decode cX11_moves 8 = .ok (.ifCond .eq 18, 3) := by decide +kernel
theorem dX11_moves_11 : decode cX11_moves 11 = .ok (.aload_n 0, 1) := by decide +kernel
theorem dX11_moves_12 : decode cX11_moves 12 = .ok (.getfield 40, 3) := by decide +kernel
theorem dX11_moves_15 : decode cX11_moves 15 = .ok (.aload_n 0, 1) := by decide +kernel
theorem dX11_moves_16 : decode cX11_moves 16 = .ok (.getfield 61, 3) := by decide +kernel
theorem dX11_moves_19 : decode cX11_moves 19 = .ok (.iload_n 1, 1) := by decide +kernel
theorem dX11_moves_20 : decode cX11_moves 20 = .ok (.invokevirtual 224, 3) := by decide +kernel
theorem dX11_moves_23 : decode cX11_moves 23 = .ok (.goto 4, 3) := by decide +kernel
theorem dX11_moves_26 : decode cX11_moves 26 = .ok (.iconst (-1), 1) := by decide +kernel
theorem dX11_moves_27 : decode cX11_moves 27 = .ok (.ireturn, 1) := by decide +kernel
theorem dX11_ways_0 : decode cX11_ways 0 = .ok (.aload_n 0, 1) := by decide +kernel
theorem dX11_ways_1 : decode cX11_ways 1 = .ok (.getfield 61, 3) := by decide +kernel
theorem dX11_ways_4 : decode cX11_ways 4 = .ok (.iload_n 1, 1) := by decide +kernel
theorem dX11_ways_5 : decode cX11_ways 5 = .ok (.iload_n 2, 1) := by decide +kernel
theorem dX11_ways_6 : decode cX11_ways 6 = .ok (.invokevirtual 189, 3) := by decide +kernel
theorem dX11_ways_9 : decode cX11_ways 9 = .ok (.ifCond .eq 19, 3) := by decide +kernel
theorem dX11_ways_12 : decode cX11_ways 12 = .ok (.aload_n 0, 1) := by decide +kernel
theorem dX11_ways_13 : decode cX11_ways 13 = .ok (.getfield 40, 3) := by decide +kernel
theorem dX11_ways_16 : decode cX11_ways 16 = .ok (.aload_n 0, 1) := by decide +kernel
theorem dX11_ways_17 : decode cX11_ways 17 = .ok (.getfield 61, 3) := by decide +kernel
theorem dX11_ways_20 : decode cX11_ways 20 = .ok (.iload_n 1, 1) := by decide +kernel
theorem dX11_ways_21 : decode cX11_ways 21 = .ok (.iload_n 2, 1) := by decide +kernel
theorem dX11_ways_22 : decode cX11_ways 22 = .ok (.invokevirtual 228, 3) := by decide +kernel
theorem dX11_ways_25 : decode cX11_ways 25 = .ok (.goto 4, 3) := by decide +kernel
theorem dX11_ways_28 : decode cX11_ways 28 = .ok (.iconst (-1), 1) := by decide +kernel
theorem dX11_ways_29 : decode cX11_ways 29 = .ok (.ireturn, 1) := by decide +kernel
theorem dX11_group_0 : decode cX11_group 0 = .ok (.aload_n 0, 1) := by decide +kernel
theorem dX11_group_1 : decode cX11_group 1 = .ok (.getfield 47, 3) := by decide +kernel
theorem dX11_group_4 : decode cX11_group 4 = .ok (.iload_n 1, 1) := by decide +kernel
theorem dX11_group_5 : decode cX11_group 5 = .ok (.invokevirtual 240, 3) := by decide +kernel
theorem dX11_group_8 : decode cX11_group 8 = .ok (.ireturn, 1) := by decide +kernel
theorem dX11_groups_0 : decode cX11_groups 0 = .ok (.aload_n 0, 1) := by decide +kernel
theorem dX11_groups_1 : decode cX11_groups 1 = .ok (.getfield 61, 3) := by decide +kernel
theorem dX11_groups_4 : decode cX11_groups 4 = .ok (.getfield 168, 3) := by decide +kernel
theorem dX11_groups_7 : decode cX11_groups 7 = .ok (.iconst (-1), 1) := by decide +kernel
theorem dX11_groups_8 : decode cX11_groups 8 = .ok (.if_icmp .ne 5, 3) := by decide +kernel
theorem dX11_groups_11 : decode cX11_groups 11 = .ok (.iconst (-1), 1) := by decide +kernel
theorem dX11_groups_12 : decode cX11_groups 12 = .ok (.ireturn, 1) := by decide +kernel
theorem dX11_groups_13 : decode cX11_groups 13 = .ok (.aload_n 0, 1) := by decide +kernel
theorem dX11_groups_14 : decode cX11_groups 14 = .ok (.getfield 47, 3) := by decide +kernel
theorem dX11_groups_17 : decode cX11_groups 17 = .ok (.aload_n 0, 1) := by decide +kernel
theorem dX11_groups_18 : decode cX11_groups 18 = .ok (.getfield 61, 3) := by decide +kernel
theorem dX11_groups_21 : decode cX11_groups 21 = .ok (.getfield 232, 3) := by decide +kernel
theorem dX11_groups_24 : decode cX11_groups 24 = .ok (.invokevirtual 233, 3) := by decide +kernel
theorem dX11_groups_27 : decode cX11_groups 27 = .ok (.iconst 0, 1) := by decide +kernel
theorem dX11_groups_28 : decode cX11_groups 28 = .ok (.istore_n 1, 1) := by decide +kernel
theorem dX11_groups_29 : decode cX11_groups 29 = .ok (.iload_n 1, 1) := by decide +kernel
theorem dX11_groups_30 : decode cX11_groups 30 = .ok (.aload_n 0, 1) := by decide +kernel
theorem dX11_groups_31 : decode cX11_groups 31 = .ok (.getfield 61, 3) := by decide +kernel
theorem dX11_groups_34 : decode cX11_groups 34 = .ok (.getfield 176, 3) := by decide +kernel
theorem dX11_groups_37 : decode cX11_groups 37 = .ok (.if_icmp .ge 28, 3) := by decide +kernel
theorem dX11_groups_40 : decode cX11_groups 40 = .ok (.aload_n 0, 1) := by decide +kernel
theorem dX11_groups_41 : decode cX11_groups 41 = .ok (.getfield 47, 3) := by decide +kernel
theorem dX11_groups_44 : decode cX11_groups 44 = .ok (.aload_n 0, 1) := by decide +kernel
theorem dX11_groups_45 : decode cX11_groups 45 = .ok (.getfield 40, 3) := by decide +kernel
theorem dX11_groups_48 : decode cX11_groups 48 = .ok (.aload_n 0, 1) := by decide +kernel
theorem dX11_groups_49 : decode cX11_groups 49 = .ok (.getfield 61, 3) := by decide +kernel
theorem dX11_groups_52 : decode cX11_groups 52 = .ok (.iload_n 1, 1) := by decide +kernel
theorem dX11_groups_53 : decode cX11_groups 53 = .ok (.invokevirtual 224, 3) := by decide +kernel
theorem dX11_groups_56 : decode cX11_groups 56 = .ok (.invokevirtual 234, 3) := by decide +kernel
theorem dX11_groups_59 : decode cX11_groups 59 = .ok (.iinc 1 1, 3) := by decide +kernel
theorem dX11_groups_62 : decode cX11_groups 62 = .ok (.goto (-33), 3) := by decide +kernel
theorem dX11_groups_65 : decode cX11_groups 65 = .ok (.aload_n 0, 1) := by decide +kernel
theorem dX11_groups_66 : decode cX11_groups 66 = .ok (.getfield 47, 3) := by decide +kernel
theorem dX11_groups_69 : decode cX11_groups 69 = .ok (.invokevirtual 237, 3) := by decide +kernel
theorem dX11_groups_72 : decode cX11_groups 72 = .ok (.ireturn, 1) := by decide +kernel
theorem dX11_difference_0 : decode cX11_difference 0 = .ok (.aload_n 0, 1) := by decide +kernel
theorem dX11_difference_1 : decode cX11_difference 1 = .ok (.getfield 61, 3) := by decide +kernel
theorem dX11_difference_4 : decode cX11_difference 4 = .ok (.iload_n 1, 1) := by decide +kernel
theorem dX11_difference_5 : decode cX11_difference 5 = .ok (.iload_n 2, 1) := by decide +kernel
theorem dX11_difference_6 : decode cX11_difference 6 = .ok (.invokevirtual 189, 3) := by decide +kernel
theorem dX11_difference_9 : decode cX11_difference 9 = .ok (.ifCond .eq 16, 3) := by decide +kernel
theorem dX11_difference_12 : decode cX11_difference 12 = .ok (.iload_n 3, 1) := by decide +kernel
theorem dX11_difference_13 : decode cX11_difference 13 = .ok (.ifCond .eq 12, 3) := by decide +kernel
theorem dX11_difference_16 : decode cX11_difference 16 = .ok (.iload_n 3, 1) := by decide +kernel
theorem dX11_difference_17 : decode cX11_difference 17 = .ok (.iload 4, 2) := by decide +kernel
theorem dX11_difference_19 : decode cX11_difference 19 = .ok (.invokestatic 128, 3) := by decide +kernel
theorem dX11_difference_22 : decode cX11_difference 22 = .ok (.ifCond .ne 7, 3) := by decide +kernel
theorem dX11_difference_25 : decode cX11_difference 25 = .ok (.ldc2_w 192, 3) := by decide +kernel
theorem dX11_difference_28 : decode cX11_difference 28 = .ok (.lreturn, 1) := by decide +kernel
theorem dX11_difference_29 : decode cX11_difference 29 = .ok (.iload_n 3, 1) := by decide +kernel
theorem dX11_difference_30 : decode cX11_difference 30 = .ok (.i2l, 1) := by decide +kernel
theorem dX11_difference_31 : decode cX11_difference 31 = .ok (.iload 4, 2) := by decide +kernel
theorem dX11_difference_33 : decode cX11_difference 33 = .ok (.i2l, 1) := by decide +kernel
theorem dX11_difference_34 : decode cX11_difference 34 = .ok (.invokestatic 134, 3) := by decide +kernel
theorem dX11_difference_37 : decode cX11_difference 37 = .ok (.lstore 6, 2) := by decide +kernel
theorem dX11_difference_39 : decode cX11_difference 39 = .ok (.aload_n 0, 1) := by decide +kernel
theorem dX11_difference_40 : decode cX11_difference 40 = .ok (.getfield 61, 3) := by decide +kernel
theorem dX11_difference_43 : decode cX11_difference 43 = .ok (.iload_n 2, 1) := by decide +kernel
theorem dX11_difference_44 : decode cX11_difference 44 = .ok (.invokevirtual 205, 3) := by decide +kernel
theorem dX11_difference_47 : decode cX11_difference 47 = .ok (.lload 6, 2) := by decide +kernel
theorem dX11_difference_49 : decode cX11_difference 49 = .ok (.invokestatic 208, 3) := by decide +kernel
theorem dX11_difference_52 : decode cX11_difference 52 = .ok (.lstore 8, 2) := by decide +kernel
theorem dX11_difference_54 : decode cX11_difference 54 = .ok (.lload 8, 2) := by decide +kernel
theorem dX11_difference_56 : decode cX11_difference 56 = .ok (.lconst 0, 1) := by decide +kernel
theorem dX11_difference_57 : decode cX11_difference 57 = .ok (.lcmp, 1) := by decide +kernel
theorem dX11_difference_58 : decode cX11_difference 58 = .ok (.ifCond .ne 7, 3) := by decide +kernel
theorem dX11_difference_61 : decode cX11_difference 61 = .ok (.ldc2_w 192, 3) := by decide +kernel
theorem dX11_difference_64 : decode cX11_difference 64 = .ok (.lreturn, 1) := by decide +kernel
theorem dX11_difference_65 : decode cX11_difference 65 = .ok (.aload_n 0, 1) := by decide +kernel
theorem dX11_difference_66 : decode cX11_difference 66 = .ok (.getfield 65, 3) := by decide +kernel
theorem dX11_difference_69 : decode cX11_difference 69 = .ok (.aload_n 0, 1) := by decide +kernel
theorem dX11_difference_70 : decode cX11_difference 70 = .ok (.getfield 71, 3) := by decide +kernel
theorem dX11_difference_73 : decode cX11_difference 73 = .ok (.aload_n 0, 1) := by decide +kernel
theorem dX11_difference_74 : decode cX11_difference 74 = .ok (.getfield 61, 3) := by decide +kernel
theorem dX11_difference_77 : decode cX11_difference 77 = .ok (.getfield 211, 3) := by decide +kernel
theorem dX11_difference_80 : decode cX11_difference 80 = .ok (.invokevirtual 161, 3) := by decide +kernel
theorem dX11_difference_83 : decode cX11_difference 83 = .ok (.aload_n 0, 1) := by decide +kernel
theorem dX11_difference_84 : decode cX11_difference 84 = .ok (.getfield 65, 3) := by decide +kernel
theorem dX11_difference_87 : decode cX11_difference 87 = .ok (.iload_n 2, 1) := by decide +kernel
theorem dX11_difference_88 : decode cX11_difference 88 = .ok (.lload 8, 2) := by decide +kernel
theorem dX11_difference_90 : decode cX11_difference 90 = .ok (.invokevirtual 212, 3) := by decide +kernel
theorem dX11_difference_93 : decode cX11_difference 93 = .ok (.aload_n 0, 1) := by decide +kernel
theorem dX11_difference_94 : decode cX11_difference 94 = .ok (.getfield 33, 3) := by decide +kernel
theorem dX11_difference_97 : decode cX11_difference 97 = .ok (.aload_n 0, 1) := by decide +kernel
theorem dX11_difference_98 : decode cX11_difference 98 = .ok (.getfield 71, 3) := by decide +kernel
theorem dX11_difference_101 : decode cX11_difference 101 = .ok (.aload_n 0, 1) := by decide +kernel
theorem dX11_difference_102 : decode cX11_difference 102 = .ok (.getfield 65, 3) := by decide +kernel
theorem dX11_difference_105 : decode cX11_difference 105 = .ok (.invokevirtual 164, 3) := by decide +kernel
theorem dX11_difference_108 : decode cX11_difference 108 = .ok (.pop, 1) := by decide +kernel
theorem dX11_difference_109 : decode cX11_difference 109 = .ok (.aload_n 0, 1) := by decide +kernel
theorem dX11_difference_110 : decode cX11_difference 110 = .ok (.getfield 65, 3) := by decide +kernel
theorem dX11_difference_113 : decode cX11_difference 113 = .ok (.getfield 168, 3) := by decide +kernel
theorem dX11_difference_116 : decode cX11_difference 116 = .ok (.ifCond .eq 7, 3) := by decide +kernel
theorem dX11_difference_119 : decode cX11_difference 119 = .ok (.ldc2_w 192, 3) := by decide +kernel
theorem dX11_difference_122 : decode cX11_difference 122 = .ok (.lreturn, 1) := by decide +kernel
theorem dX11_difference_123 : decode cX11_difference 123 = .ok (.aload_n 0, 1) := by decide +kernel
theorem dX11_difference_124 : decode cX11_difference 124 = .ok (.getfield 65, 3) := by decide +kernel
theorem dX11_difference_127 : decode cX11_difference 127 = .ok (.iload_n 1, 1) := by decide +kernel
theorem dX11_difference_128 : decode cX11_difference 128 = .ok (.invokevirtual 182, 3) := by decide +kernel
theorem dX11_difference_131 : decode cX11_difference 131 = .ok (.aload_n 0, 1) := by decide +kernel
theorem dX11_difference_132 : decode cX11_difference 132 = .ok (.getfield 61, 3) := by decide +kernel
theorem dX11_difference_135 : decode cX11_difference 135 = .ok (.iload_n 1, 1) := by decide +kernel
theorem dX11_difference_136 : decode cX11_difference 136 = .ok (.invokevirtual 182, 3) := by decide +kernel
theorem dX11_difference_139 : decode cX11_difference 139 = .ok (.invokestatic 215, 3) := by decide +kernel
theorem dX11_difference_142 : decode cX11_difference 142 = .ok (.lstore 10, 2) := by decide +kernel
theorem dX11_difference_144 : decode cX11_difference 144 = .ok (.lload 10, 2) := by decide +kernel
theorem dX11_difference_146 : decode cX11_difference 146 = .ok (.lload 6, 2) := by decide +kernel
theorem dX11_difference_148 : decode cX11_difference 148 = .ok (.invokestatic 218, 3) := by decide +kernel
theorem dX11_difference_151 : decode cX11_difference 151 = .ok (.iload 5, 2) := by decide +kernel
theorem dX11_difference_153 : decode cX11_difference 153 = .ok (.invokestatic 153, 3) := by decide +kernel
theorem dX11_difference_156 : decode cX11_difference 156 = .ok (.lreturn, 1) := by decide +kernel
def v_x_answer : List Cond := .code yX11_answer cX11_answer 3 (some .long) :: ([.constantLong RX11 192 (-2000000000)] ++ ((va_wsS RX11 255 yX0_below v_k_below) ++ (va_wsS RX11 251 yX0_above v_k_above)))
theorem g_x_answer_0 : GoodIn v_x_answer (va_wsS RX11 255 yX0_below v_k_below) := goodIn_sub (fun w h => List.mem_cons_of_mem _ (List.mem_append_right _ (List.mem_append_left _ h))) (by decide +kernel)
theorem g_x_answer_1 : GoodIn v_x_answer (va_wsS RX11 251 yX0_above v_k_above) := goodIn_sub (fun w h => List.mem_cons_of_mem _ (List.mem_append_right _ (List.mem_append_right _ h))) (by decide +kernel)
set_option maxHeartbeats 4000000 in
set_option maxRecDepth 100000 in
theorem x_answer (l : Launch) (D : va_G) (y : Nat → ClassId) (sz : Nat) (x : Int64) (q : Int32) : Met l yX11_answer v_x_answer ({ frames := 1, cells := 0, slots := 0, locals := 21 } : Room) (va_Pc [.long x, .int q] (xPre D (xT y) [] sz)) (va_Ql (fun (r : Int64) (_ : Unit) => True) (fun (u : Unit) => xB D (xT y) (va_A [] sz) []) (va_A [] sz)) 0 0 (va_A [] sz) := by
  refine x_metl (cc := cX11_answer) (maxL := 3) (by decide) rfl (Nat.le_of_ble_eq_true rfl) ?_
  intro p e s m below meth c A H locs Q hx hb hml hown hts hr hlocks hmn hA hP hK hD hS ls hl hQ
  have hl : lv_has ls 3 [(0, .long x), (2, .int q)] := hl
  have kk_0 : (0 : Int32).toInt = 0 := rfl
  refine lv_lload_n hx hb dX11_answer_0 rfl (lv_at hl 0 rfl) ?_
  refine lv_lconst (v := 0) hx hb dX11_answer_1 (by decide) ?_
  refine W.lcmp hx hb dX11_answer_2 ?_
  refine lv_if_ne (tgt := 10) hx hb dX11_answer_3 (by decide) (fun c_1 => ?_) (fun c_1 => ?_)
  · have kc_1 : x.toInt ≠ 0 := by have h9 := x_tri x (0 : Int64); (try simp only [Int64.reduceToInt] at h9); rcases h9 with ⟨g1, g2⟩ | ⟨g1, g2⟩ | ⟨g1, g2⟩ <;> first | omega | (exfalso; rw [g1] at c_1; revert c_1; decide)
    refine lv_iload_n hx hb dX11_answer_10 rfl (lv_at hl 1 rfl) ?_
    refine lv_if_eq (tgt := 21) hx hb dX11_answer_11 (by decide) (fun c_2 => ?_) (fun c_2 => ?_)
    · have kc_2 : q.toInt = 0 := by have h9 := c_2; simp only [ge_iff_le, gt_iff_lt, x_lt, x_le, x_eq, ne_eq, Int32.not_lt, Int32.not_le] at h9; simp only [Int32.reduceToInt] at h9; omega
      refine lv_lload_n hx hb dX11_answer_21 rfl (lv_at hl 0 rfl) ?_
      refine x_calllN (va_runS (As := [.long x]) (rest := []) ⟨hx, hb, hml, hown, hts⟩ (k_below l D y H.size x) (va_cwS 1 hts g_x_answer_0 rfl rfl rfl (by decide +kernel) ⟨Nat.le_of_ble_eq_true rfl, Nat.le_of_ble_eq_true rfl⟩) (x_preS hK (x_nilP D H) (x_nilD A)) rfl rfl hl.1 rfl (lv_room (Nat.le_of_ble_eq_true rfl)) dX11_answer_22 ⟨Nat.le_of_ble_eq_true rfl, Nat.le_of_ble_eq_true rfl⟩) hP hD hS hA (fun r_3 u H locs hw hP hD hS => ?_)
      try dsimp only at hw
      exact x_lretW (v := r_3) (u := ()) hx hb hr hQ trivial (x_nilP D H) (x_nilD A) hK hS dX11_answer_25 hlocks
    · have kc_2 : q.toInt ≠ 0 := by have h9 := c_2; simp only [ge_iff_le, gt_iff_lt, x_lt, x_le, x_eq, ne_eq, Int32.not_lt, Int32.not_le] at h9; simp only [Int32.reduceToInt] at h9; omega
      refine lv_lload_n hx hb dX11_answer_14 rfl (lv_at hl 0 rfl) ?_
      refine x_calllN (va_runS (As := [.long x]) (rest := []) ⟨hx, hb, hml, hown, hts⟩ (k_above l D y H.size x) (va_cwS 1 hts g_x_answer_1 rfl rfl rfl (by decide +kernel) ⟨Nat.le_of_ble_eq_true rfl, Nat.le_of_ble_eq_true rfl⟩) (x_preS hK (x_nilP D H) (x_nilD A)) rfl rfl hl.1 rfl (lv_room (Nat.le_of_ble_eq_true rfl)) dX11_answer_15 ⟨Nat.le_of_ble_eq_true rfl, Nat.le_of_ble_eq_true rfl⟩) hP hD hS hA (fun r_4 u H locs hw hP hD hS => ?_)
      try dsimp only at hw
      refine lv_goto (tgt := 25) hx hb dX11_answer_18 (by decide) ?_
      exact x_lretW (v := r_4) (u := ()) hx hb hr hQ trivial (x_nilP D H) (x_nilD A) hK hS dX11_answer_25 hlocks
  · have kc_1 : x.toInt = 0 := by have h9 := x_tri x (0 : Int64); (try simp only [Int64.reduceToInt] at h9); rcases h9 with ⟨g1, g2⟩ | ⟨g1, g2⟩ | ⟨g1, g2⟩ <;> first | omega | (exfalso; rw [g1] at c_1; revert c_1; decide)
    refine lv_ldc2 (v := (-2000000000)) hx hb hown (hts (.constantLong RX11 192 (-2000000000)) (List.mem_of_getElem? (i := 1) rfl)) dX11_answer_6 ?_
    exact x_lretW (v := (-2000000000)) (u := ()) hx hb hr hQ trivial (x_nilP D H) (x_nilD A) hK hS dX11_answer_9 hlocks

def v_x_faultKind : List Cond := .code yX5_faultKind cX5_faultKind 1 (some .int) :: ([.fieldLink RX5 22 "SlopeRunner$Parser" "kindOfFault" "I"] ++ wsX50)
set_option maxHeartbeats 4000000 in
set_option maxRecDepth 100000 in
theorem x_faultKind (l : Launch) (D : va_G) (y : Nat → ClassId) (sz : Nat) (ad : Nat → Nat) (iv : Value) (σ : OS)  : Met l yX5_faultKind v_x_faultKind ({ frames := 0, cells := 0, slots := 0, locals := 0 } : Room) (va_Pc [.ref (ad 30)] (xPre D (xT y) (paw y ad iv σ) sz)) (va_Qi (fun (r : Int32) (_ : Unit) => True) (fun (u : Unit) => xB D (xT y) (va_A (paw y ad iv σ) sz) (paw y ad iv σ)) (va_A (paw y ad iv σ) sz)) 0 0 (va_A (paw y ad iv σ) sz) := by
  refine x_meti (cc := cX5_faultKind) (maxL := 1) (by decide) rfl (Nat.le_of_ble_eq_true rfl) ?_
  intro p e s m below meth c A H locs Q hx hb hml hown hts hr hlocks hmn hA hP hK hD hS ls hl hQ
  have hl : lv_has ls 1 [(0, .ref (ad 30))] := hl
  have fl22 := hts (.fieldLink RX5 22 "SlopeRunner$Parser" "kindOfFault" "I") (List.mem_of_getElem? (i := 1) rfl)
  have inX5 : ∀ w ∈ wsX50, w ∈ v_x_faultKind := (fun w h => List.mem_cons_of_mem _ (List.mem_append_right _ h))
  refine lv_aload_n hx hb dX5_faultKind_0 rfl (lv_at hl 0 rfl) ?_
  refine va_get (D := D) (ci := 4) (v := .int (σ.1 36)) (C := RX5) (T := TX5) (N := 8) hx hb hts inX5 hown hK hP 0 paw_o0 rfl 5 (by decide) fl22 (fun _ h9 => h9) rfl dX5_faultKind_1 ?_
  exact x_iretW (v := (σ.1 36)) (u := ()) hx hb hr hQ trivial hP hD hK hS dX5_faultKind_4 hlocks

def v_x_faultPlace : List Cond := .code yX5_faultPlace cX5_faultPlace 1 (some .int) :: ([.fieldLink RX5 18 "SlopeRunner$Parser" "placeOfFault" "I"] ++ wsX50)
set_option maxHeartbeats 4000000 in
set_option maxRecDepth 100000 in
theorem x_faultPlace (l : Launch) (D : va_G) (y : Nat → ClassId) (sz : Nat) (ad : Nat → Nat) (iv : Value) (σ : OS)  : Met l yX5_faultPlace v_x_faultPlace ({ frames := 0, cells := 0, slots := 0, locals := 0 } : Room) (va_Pc [.ref (ad 30)] (xPre D (xT y) (paw y ad iv σ) sz)) (va_Qi (fun (r : Int32) (_ : Unit) => True) (fun (u : Unit) => xB D (xT y) (va_A (paw y ad iv σ) sz) (paw y ad iv σ)) (va_A (paw y ad iv σ) sz)) 0 0 (va_A (paw y ad iv σ) sz) := by
  refine x_meti (cc := cX5_faultPlace) (maxL := 1) (by decide) rfl (Nat.le_of_ble_eq_true rfl) ?_
  intro p e s m below meth c A H locs Q hx hb hml hown hts hr hlocks hmn hA hP hK hD hS ls hl hQ
  have hl : lv_has ls 1 [(0, .ref (ad 30))] := hl
  have fl18 := hts (.fieldLink RX5 18 "SlopeRunner$Parser" "placeOfFault" "I") (List.mem_of_getElem? (i := 1) rfl)
  have inX5 : ∀ w ∈ wsX50, w ∈ v_x_faultPlace := (fun w h => List.mem_cons_of_mem _ (List.mem_append_right _ h))
  refine lv_aload_n hx hb dX5_faultPlace_0 rfl (lv_at hl 0 rfl) ?_
  refine va_get (D := D) (ci := 4) (v := .int (σ.1 38)) (C := RX5) (T := TX5) (N := 8) hx hb hts inX5 hown hK hP 0 paw_o0 rfl 7 (by decide) fl18 (fun _ h9 => h9) rfl dX5_faultPlace_1 ?_
  exact x_iretW (v := (σ.1 38)) (u := ()) hx hb hr hQ trivial hP hD hK hS dX5_faultPlace_4 hlocks

def v_x_m_feed : List Cond := .code yX11_feed cX11_feed 6 (some .int) :: ([.fieldLink RX11 10 "SlopeRunner" "text" "LSlopeRunner$Text;"] ++ ((wsV RX11 78 RX9 yX9_hasRoomFor v_x_hasRoomFor) ++ ((wsV RX11 82 RX9 yX9_addFour v_x_addFour) ++ ((wsV RX11 86 RX9 yX9_size v_x_size) ++ wsX110))))
theorem g_x_m_feed_0 : GoodIn v_x_m_feed (wsV RX11 78 RX9 yX9_hasRoomFor v_x_hasRoomFor) := goodIn_sub (fun w h => List.mem_cons_of_mem _ (List.mem_append_right _ (List.mem_append_left _ h))) (by decide +kernel)
theorem g_x_m_feed_1 : GoodIn v_x_m_feed (wsV RX11 82 RX9 yX9_addFour v_x_addFour) := goodIn_sub (fun w h => List.mem_cons_of_mem _ (List.mem_append_right _ (List.mem_append_right _ (List.mem_append_left _ h)))) (by decide +kernel)
theorem g_x_m_feed_2 : GoodIn v_x_m_feed (wsV RX11 86 RX9 yX9_size v_x_size) := goodIn_sub (fun w h => List.mem_cons_of_mem _ (List.mem_append_right _ (List.mem_append_right _ (List.mem_append_right _ (List.mem_append_left _ h))))) (by decide +kernel)
set_option maxHeartbeats 4000000 in
set_option maxRecDepth 100000 in
theorem x_m_feed (l : Launch) (D : va_G) (y : Nat → ClassId) (sz : Nat) (ad : Nat → Nat) (iv : Value) (pv : Value) (tv : Value) (kt : va_W) (σ : OS) (a b z t e9 : Int32) (hxi : XI σ) : Met l yX11_feed v_x_m_feed ({ frames := 1, cells := 0, slots := 0, locals := 22 } : Room) (va_Pc [.ref (ad 0), .int a, .int b, .int z, .int t, .int e9] (xPre D (xT y) (xwd y ad iv pv tv kt σ) sz)) (va_Qi (fun (r : Int32) (u : OS) => XI u ∧ ((r.toInt = -1 ∧ 700 < (σ.1 22).toInt + 20 ∧ (u.1 22).toInt = (σ.1 22).toInt) ∨ ((σ.1 22).toInt + 20 ≤ 700 ∧ r.toInt = (σ.1 22).toInt + 20 ∧ (u.1 22).toInt = (σ.1 22).toInt + 20))) (fun (u : OS) => xB D (xT y) (va_A (xwd y ad iv pv tv kt σ) sz) (xwd y ad iv pv tv kt u)) (va_A (xwd y ad iv pv tv kt σ) sz)) 0 0 (va_A (xwd y ad iv pv tv kt σ) sz) := by
  refine x_meti (cc := cX11_feed) (maxL := 6) (by decide) rfl (Nat.le_of_ble_eq_true rfl) ?_
  intro p e s m below meth c A H locs Q hx hb hml hown hts hr hlocks hmn hA hP hK hD hS ls hl hQ
  have hl : lv_has ls 6 [(0, .ref (ad 0)), (1, .int a), (2, .int b), (3, .int z), (4, .int t), (5, .int e9)] := hl
  have fl10 := hts (.fieldLink RX11 10 "SlopeRunner" "text" "LSlopeRunner$Text;") (List.mem_of_getElem? (i := 1) rfl)
  have inX11 : ∀ w ∈ wsX110, w ∈ v_x_m_feed := (fun w h => List.mem_cons_of_mem _ (List.mem_append_right _ (List.mem_append_right _ (List.mem_append_right _ (List.mem_append_right _ h)))))
  have kk_20 : (20 : Int32).toInt = 20 := rfl
  have kk_0 : (0 : Int32).toInt = 0 := rfl
  have kk_m1 : ((-1) : Int32).toInt = -1 := rfl
  obtain ⟨hxi0, hxi1, hxi2, hxi3, hxi4, hxi5, hxi6, hxi7, hxi8, hxi9, hxi10, hxi11, hxi12, hxi13, hxi14, hxi15, hxi16, hxi17, hxi18, hxi19, hxi20, hxi21, hxi22, hxi23, hxb102, hxb133, hxb134, hxb135, hxb153, hxb154, hxb155⟩ := hxi
  have l20 : (20 : Int32).toInt = 20 := rfl
  refine lv_aload_n hx hb dX11_feed_0 rfl (lv_at hl 0 rfl) ?_
  refine va_get (D := D) (ci := 10) (v := .ref (ad 20)) (C := RX11) (T := TX11) (N := 11) hx hb hts inX11 hown hK hP 0 xwd_o0 rfl 0 (by decide) fl10 (fun _ h9 => h9) rfl dX11_feed_1 ?_
  refine lv_bipush (v := 20) hx hb dX11_feed_4 (by decide) ?_
  have hPs : va_P D vwCl (txw y ad σ) H := x_suP hP [1, 12] rfl
  have hDs : va_D A (txw y ad σ) := x_suD hD [1, 12] rfl (by decide)
  refine x_calliT (b1 := fun (u : Unit) => (xwd y ad iv pv tv kt σ)) [1, 12] [none, some 0, none, none, none, none, none, none, none, none, none, none, some 1, none, none, none, none, none, none, none, none, none, none, none, none, none, none, none, none, none, none, none, none, none, none, none, none, none, none, none, none, none, none, none, none, none, none, none, none, none, none, none] 2 (va_runV (As := [.int 20]) (rest := []) ⟨hx, hb, hml, hown, hts⟩ (x_hasRoomFor l D y H.size ad σ 20 (by first | omega | decide) (by first | omega | decide) (show 0 ≤ ((σ.1 22)).toInt from by first | omega | decide) (show ((σ.1 22)).toInt ≤ 700 from by first | omega | decide)) (cwV 1 hts g_x_m_feed_0 rfl rfl rfl (by decide +kernel) ⟨Nat.le_of_ble_eq_true rfl, Nat.le_of_ble_eq_true rfl⟩) (x_preV (q := (RX9, TX9, 2)) hK hPs hDs (ci := 8) (q0 := 0) rfl txw_o0) rfl rfl hl.1 rfl (lv_room (Nat.le_of_ble_eq_true rfl)) dX11_feed_6 ⟨Nat.le_of_ble_eq_true rfl, Nat.le_of_ble_eq_true rfl⟩) hP hD hS hA rfl (fun _ => xwd_in_txw (agr_refl _ _)) (fun _ => rfl) (fun _ => rfl) rfl (fun r_1 u H locs hw hP hD hS => ?_)
  try dsimp only at hw
  have hP : va_P D vwCl (xwd y ad iv pv tv kt σ) H := hP
  have hD : va_D A (xwd y ad iv pv tv kt σ) := hD
  replace hw : (r_1.toInt = 1 ∧ ((σ.1 22)).toInt + (20 : Int32).toInt ≤ 700) ∨ (r_1.toInt = 0 ∧ 700 < ((σ.1 22)).toInt + (20 : Int32).toInt) := hw
  have hrf := hw
  refine lv_if_ne (tgt := 14) hx hb dX11_feed_9 (by decide) (fun c_2 => ?_) (fun c_2 => ?_)
  · have kc_2 : r_1.toInt ≠ 0 := by have h9 := c_2; simp only [ge_iff_le, gt_iff_lt, x_lt, x_le, x_eq, ne_eq, Int32.not_lt, Int32.not_le] at h9; simp only [Int32.reduceToInt] at h9; omega
    refine lv_aload_n hx hb dX11_feed_14 rfl (lv_at hl 0 rfl) ?_
    refine va_get (D := D) (ci := 10) (v := .ref (ad 20)) (C := RX11) (T := TX11) (N := 11) hx hb hts inX11 hown hK hP 0 xwd_o0 rfl 0 (by decide) fl10 (fun _ h9 => h9) rfl dX11_feed_15 ?_
    refine lv_iload_n hx hb dX11_feed_18 rfl (lv_at hl 1 rfl) ?_
    have hPs : va_P D vwCl (txw y ad σ) H := x_suP hP [1, 12] rfl
    have hDs : va_D A (txw y ad σ) := x_suD hD [1, 12] rfl (by decide)
    refine x_callvT (b1 := fun (u : (Nat → Int32) × Int32) => (xwd y ad iv pv tv kt (sI (tI σ 21 u.1) 22 u.2))) [1, 12] [none, some 0, none, none, none, none, none, none, none, none, none, none, some 1, none, none, none, none, none, none, none, none, none, none, none, none, none, none, none, none, none, none, none, none, none, none, none, none, none, none, none, none, none, none, none, none, none, none, none, none, none, none, none] 2 (va_runV (As := [.int a]) (rest := []) ⟨hx, hb, hml, hown, hts⟩ (x_addFour l D y H.size ad σ a (show 0 ≤ ((σ.1 22)).toInt from by first | omega | decide) (show ((σ.1 22)).toInt ≤ 696 from by first | omega | decide)) (cwV 1 hts g_x_m_feed_1 rfl rfl rfl (by decide +kernel) ⟨Nat.le_of_ble_eq_true rfl, Nat.le_of_ble_eq_true rfl⟩) (x_preV (q := (RX9, TX9, 2)) hK hPs hDs (ci := 8) (q0 := 0) rfl txw_o0) rfl rfl hl.1 rfl (lv_room (Nat.le_of_ble_eq_true rfl)) dX11_feed_19 ⟨Nat.le_of_ble_eq_true rfl, Nat.le_of_ble_eq_true rfl⟩) hP hD hS hA rfl (fun _ => xwd_in_txw (agr_sI (agr_tI (agr_refl _ _) rfl) rfl)) (fun _ => rfl) (fun _ => rfl) rfl (fun u H locs hw hP hD hS => ?_)
    obtain ⟨f_3, n_4⟩ := u
    try dsimp only at hw
    have hP : va_P D vwCl (xwd y ad iv pv tv kt (sI (tI σ 21 f_3) 22 n_4)) H := hP
    have hD : va_D A (xwd y ad iv pv tv kt (sI (tI σ 21 f_3) 22 n_4)) := hD
    replace hw : n_4.toInt = ((σ.1 22)).toInt + 4 := hw
    obtain ⟨t_5, et_5⟩ : ∃ z9 : OS, z9 = (sI (tI σ 21 f_3) 22 n_4) := ⟨_, rfl⟩
    rw [← et_5] at hP hD
    have qt_5_22 : (t_5.1 22).toInt = n_4.toInt := by rw [et_5]; rfl
    have qt_5_81 : (t_5.1 81).toInt = (σ.1 81).toInt := by rw [et_5]; rfl
    have qt_5_82 : (t_5.1 82).toInt = (σ.1 82).toInt := by rw [et_5]; rfl
    have qt_5_85 : (t_5.1 85).toInt = (σ.1 85).toInt := by rw [et_5]; rfl
    have qt_5_86 : (t_5.1 86).toInt = (σ.1 86).toInt := by rw [et_5]; rfl
    have qt_5_105 : (t_5.1 105).toInt = (σ.1 105).toInt := by rw [et_5]; rfl
    have qt_5_137 : (t_5.1 137).toInt = (σ.1 137).toInt := by rw [et_5]; rfl
    have qt_5_139 : (t_5.1 139).toInt = (σ.1 139).toInt := by rw [et_5]; rfl
    have qt_5_141 : (t_5.1 141).toInt = (σ.1 141).toInt := by rw [et_5]; rfl
    have qt_5_183 : (t_5.1 183).toInt = (σ.1 183).toInt := by rw [et_5]; rfl
    have qt_5_138 : (t_5.1 138).toInt = (σ.1 138).toInt := by rw [et_5]; rfl
    have qt_5_106 : (t_5.1 106).toInt = (σ.1 106).toInt := by rw [et_5]; rfl
    have qt_5_107 : (t_5.1 107).toInt = (σ.1 107).toInt := by rw [et_5]; rfl
    have bt_5_102 : bI (t_5.2.2.1 102) 0 7 := by rw [et_5]; exact hxb102
    have bt_5_133 : bI (t_5.2.2.1 133) 0 1358 := by rw [et_5]; exact hxb133
    have bt_5_134 : bI (t_5.2.2.1 134) 0 1358 := by rw [et_5]; exact hxb134
    have bt_5_135 : bI (t_5.2.2.1 135) 0 1358 := by rw [et_5]; exact hxb135
    have bt_5_153 : bI (t_5.2.2.1 153) 0 1358 := by rw [et_5]; exact hxb153
    have bt_5_154 : bI (t_5.2.2.1 154) 0 1358 := by rw [et_5]; exact hxb154
    have bt_5_155 : bI (t_5.2.2.1 155) 0 1358 := by rw [et_5]; exact hxb155
    have hP : va_P D vwCl (xwd y ad iv pv tv kt t_5) H := hP
    have hD : va_D A (xwd y ad iv pv tv kt t_5) := hD
    have haf1 := hw
    refine lv_aload_n hx hb dX11_feed_22 rfl (lv_at hl 0 rfl) ?_
    refine va_get (D := D) (ci := 10) (v := .ref (ad 20)) (C := RX11) (T := TX11) (N := 11) hx hb hts inX11 hown hK hP 0 xwd_o0 rfl 0 (by decide) fl10 (fun _ h9 => h9) rfl dX11_feed_23 ?_
    refine lv_iload_n hx hb dX11_feed_26 rfl (lv_at hl 2 rfl) ?_
    have hPs : va_P D vwCl (txw y ad t_5) H := x_suP hP [1, 12] rfl
    have hDs : va_D A (txw y ad t_5) := x_suD hD [1, 12] rfl (by decide)
    refine x_callvT (b1 := fun (u : (Nat → Int32) × Int32) => (xwd y ad iv pv tv kt (sI (tI t_5 21 u.1) 22 u.2))) [1, 12] [none, some 0, none, none, none, none, none, none, none, none, none, none, some 1, none, none, none, none, none, none, none, none, none, none, none, none, none, none, none, none, none, none, none, none, none, none, none, none, none, none, none, none, none, none, none, none, none, none, none, none, none, none, none] 2 (va_runV (As := [.int b]) (rest := []) ⟨hx, hb, hml, hown, hts⟩ (x_addFour l D y H.size ad t_5 b (show 0 ≤ ((t_5.1 22)).toInt from by first | omega | decide) (show ((t_5.1 22)).toInt ≤ 696 from by first | omega | decide)) (cwV 1 hts g_x_m_feed_1 rfl rfl rfl (by decide +kernel) ⟨Nat.le_of_ble_eq_true rfl, Nat.le_of_ble_eq_true rfl⟩) (x_preV (q := (RX9, TX9, 2)) hK hPs hDs (ci := 8) (q0 := 0) rfl txw_o0) rfl rfl hl.1 rfl (lv_room (Nat.le_of_ble_eq_true rfl)) dX11_feed_27 ⟨Nat.le_of_ble_eq_true rfl, Nat.le_of_ble_eq_true rfl⟩) hP hD hS hA rfl (fun _ => xwd_in_txw (agr_sI (agr_tI (agr_refl _ _) rfl) rfl)) (fun _ => rfl) (fun _ => rfl) rfl (fun u H locs hw hP hD hS => ?_)
    obtain ⟨f_6, n_7⟩ := u
    try dsimp only at hw
    have hP : va_P D vwCl (xwd y ad iv pv tv kt (sI (tI t_5 21 f_6) 22 n_7)) H := hP
    have hD : va_D A (xwd y ad iv pv tv kt (sI (tI t_5 21 f_6) 22 n_7)) := hD
    replace hw : n_7.toInt = ((t_5.1 22)).toInt + 4 := hw
    obtain ⟨t_8, et_8⟩ : ∃ z9 : OS, z9 = (sI (tI t_5 21 f_6) 22 n_7) := ⟨_, rfl⟩
    rw [← et_8] at hP hD
    have qt_8_22 : (t_8.1 22).toInt = n_7.toInt := by rw [et_8]; rfl
    have qt_8_81 : (t_8.1 81).toInt = (t_5.1 81).toInt := by rw [et_8]; rfl
    have qt_8_82 : (t_8.1 82).toInt = (t_5.1 82).toInt := by rw [et_8]; rfl
    have qt_8_85 : (t_8.1 85).toInt = (t_5.1 85).toInt := by rw [et_8]; rfl
    have qt_8_86 : (t_8.1 86).toInt = (t_5.1 86).toInt := by rw [et_8]; rfl
    have qt_8_105 : (t_8.1 105).toInt = (t_5.1 105).toInt := by rw [et_8]; rfl
    have qt_8_137 : (t_8.1 137).toInt = (t_5.1 137).toInt := by rw [et_8]; rfl
    have qt_8_139 : (t_8.1 139).toInt = (t_5.1 139).toInt := by rw [et_8]; rfl
    have qt_8_141 : (t_8.1 141).toInt = (t_5.1 141).toInt := by rw [et_8]; rfl
    have qt_8_183 : (t_8.1 183).toInt = (t_5.1 183).toInt := by rw [et_8]; rfl
    have qt_8_138 : (t_8.1 138).toInt = (t_5.1 138).toInt := by rw [et_8]; rfl
    have qt_8_106 : (t_8.1 106).toInt = (t_5.1 106).toInt := by rw [et_8]; rfl
    have qt_8_107 : (t_8.1 107).toInt = (t_5.1 107).toInt := by rw [et_8]; rfl
    have bt_8_102 : bI (t_8.2.2.1 102) 0 7 := by rw [et_8]; exact bt_5_102
    have bt_8_133 : bI (t_8.2.2.1 133) 0 1358 := by rw [et_8]; exact bt_5_133
    have bt_8_134 : bI (t_8.2.2.1 134) 0 1358 := by rw [et_8]; exact bt_5_134
    have bt_8_135 : bI (t_8.2.2.1 135) 0 1358 := by rw [et_8]; exact bt_5_135
    have bt_8_153 : bI (t_8.2.2.1 153) 0 1358 := by rw [et_8]; exact bt_5_153
    have bt_8_154 : bI (t_8.2.2.1 154) 0 1358 := by rw [et_8]; exact bt_5_154
    have bt_8_155 : bI (t_8.2.2.1 155) 0 1358 := by rw [et_8]; exact bt_5_155
    have hP : va_P D vwCl (xwd y ad iv pv tv kt t_8) H := hP
    have hD : va_D A (xwd y ad iv pv tv kt t_8) := hD
    have haf2 := hw
    refine lv_aload_n hx hb dX11_feed_30 rfl (lv_at hl 0 rfl) ?_
    refine va_get (D := D) (ci := 10) (v := .ref (ad 20)) (C := RX11) (T := TX11) (N := 11) hx hb hts inX11 hown hK hP 0 xwd_o0 rfl 0 (by decide) fl10 (fun _ h9 => h9) rfl dX11_feed_31 ?_
    refine lv_iload_n hx hb dX11_feed_34 rfl (lv_at hl 3 rfl) ?_
    have hPs : va_P D vwCl (txw y ad t_8) H := x_suP hP [1, 12] rfl
    have hDs : va_D A (txw y ad t_8) := x_suD hD [1, 12] rfl (by decide)
    refine x_callvT (b1 := fun (u : (Nat → Int32) × Int32) => (xwd y ad iv pv tv kt (sI (tI t_8 21 u.1) 22 u.2))) [1, 12] [none, some 0, none, none, none, none, none, none, none, none, none, none, some 1, none, none, none, none, none, none, none, none, none, none, none, none, none, none, none, none, none, none, none, none, none, none, none, none, none, none, none, none, none, none, none, none, none, none, none, none, none, none, none] 2 (va_runV (As := [.int z]) (rest := []) ⟨hx, hb, hml, hown, hts⟩ (x_addFour l D y H.size ad t_8 z (show 0 ≤ ((t_8.1 22)).toInt from by first | omega | decide) (show ((t_8.1 22)).toInt ≤ 696 from by first | omega | decide)) (cwV 1 hts g_x_m_feed_1 rfl rfl rfl (by decide +kernel) ⟨Nat.le_of_ble_eq_true rfl, Nat.le_of_ble_eq_true rfl⟩) (x_preV (q := (RX9, TX9, 2)) hK hPs hDs (ci := 8) (q0 := 0) rfl txw_o0) rfl rfl hl.1 rfl (lv_room (Nat.le_of_ble_eq_true rfl)) dX11_feed_35 ⟨Nat.le_of_ble_eq_true rfl, Nat.le_of_ble_eq_true rfl⟩) hP hD hS hA rfl (fun _ => xwd_in_txw (agr_sI (agr_tI (agr_refl _ _) rfl) rfl)) (fun _ => rfl) (fun _ => rfl) rfl (fun u H locs hw hP hD hS => ?_)
    obtain ⟨f_9, n_10⟩ := u
    try dsimp only at hw
    have hP : va_P D vwCl (xwd y ad iv pv tv kt (sI (tI t_8 21 f_9) 22 n_10)) H := hP
    have hD : va_D A (xwd y ad iv pv tv kt (sI (tI t_8 21 f_9) 22 n_10)) := hD
    replace hw : n_10.toInt = ((t_8.1 22)).toInt + 4 := hw
    obtain ⟨t_11, et_11⟩ : ∃ z9 : OS, z9 = (sI (tI t_8 21 f_9) 22 n_10) := ⟨_, rfl⟩
    rw [← et_11] at hP hD
    have qt_11_22 : (t_11.1 22).toInt = n_10.toInt := by rw [et_11]; rfl
    have qt_11_81 : (t_11.1 81).toInt = (t_8.1 81).toInt := by rw [et_11]; rfl
    have qt_11_82 : (t_11.1 82).toInt = (t_8.1 82).toInt := by rw [et_11]; rfl
    have qt_11_85 : (t_11.1 85).toInt = (t_8.1 85).toInt := by rw [et_11]; rfl
    have qt_11_86 : (t_11.1 86).toInt = (t_8.1 86).toInt := by rw [et_11]; rfl
    have qt_11_105 : (t_11.1 105).toInt = (t_8.1 105).toInt := by rw [et_11]; rfl
    have qt_11_137 : (t_11.1 137).toInt = (t_8.1 137).toInt := by rw [et_11]; rfl
    have qt_11_139 : (t_11.1 139).toInt = (t_8.1 139).toInt := by rw [et_11]; rfl
    have qt_11_141 : (t_11.1 141).toInt = (t_8.1 141).toInt := by rw [et_11]; rfl
    have qt_11_183 : (t_11.1 183).toInt = (t_8.1 183).toInt := by rw [et_11]; rfl
    have qt_11_138 : (t_11.1 138).toInt = (t_8.1 138).toInt := by rw [et_11]; rfl
    have qt_11_106 : (t_11.1 106).toInt = (t_8.1 106).toInt := by rw [et_11]; rfl
    have qt_11_107 : (t_11.1 107).toInt = (t_8.1 107).toInt := by rw [et_11]; rfl
    have bt_11_102 : bI (t_11.2.2.1 102) 0 7 := by rw [et_11]; exact bt_8_102
    have bt_11_133 : bI (t_11.2.2.1 133) 0 1358 := by rw [et_11]; exact bt_8_133
    have bt_11_134 : bI (t_11.2.2.1 134) 0 1358 := by rw [et_11]; exact bt_8_134
    have bt_11_135 : bI (t_11.2.2.1 135) 0 1358 := by rw [et_11]; exact bt_8_135
    have bt_11_153 : bI (t_11.2.2.1 153) 0 1358 := by rw [et_11]; exact bt_8_153
    have bt_11_154 : bI (t_11.2.2.1 154) 0 1358 := by rw [et_11]; exact bt_8_154
    have bt_11_155 : bI (t_11.2.2.1 155) 0 1358 := by rw [et_11]; exact bt_8_155
    have hP : va_P D vwCl (xwd y ad iv pv tv kt t_11) H := hP
    have hD : va_D A (xwd y ad iv pv tv kt t_11) := hD
    have haf3 := hw
    refine lv_aload_n hx hb dX11_feed_38 rfl (lv_at hl 0 rfl) ?_
    refine va_get (D := D) (ci := 10) (v := .ref (ad 20)) (C := RX11) (T := TX11) (N := 11) hx hb hts inX11 hown hK hP 0 xwd_o0 rfl 0 (by decide) fl10 (fun _ h9 => h9) rfl dX11_feed_39 ?_
    refine lv_iload hx hb dX11_feed_42 (lv_at hl 4 rfl) ?_
    have hPs : va_P D vwCl (txw y ad t_11) H := x_suP hP [1, 12] rfl
    have hDs : va_D A (txw y ad t_11) := x_suD hD [1, 12] rfl (by decide)
    refine x_callvT (b1 := fun (u : (Nat → Int32) × Int32) => (xwd y ad iv pv tv kt (sI (tI t_11 21 u.1) 22 u.2))) [1, 12] [none, some 0, none, none, none, none, none, none, none, none, none, none, some 1, none, none, none, none, none, none, none, none, none, none, none, none, none, none, none, none, none, none, none, none, none, none, none, none, none, none, none, none, none, none, none, none, none, none, none, none, none, none, none] 2 (va_runV (As := [.int t]) (rest := []) ⟨hx, hb, hml, hown, hts⟩ (x_addFour l D y H.size ad t_11 t (show 0 ≤ ((t_11.1 22)).toInt from by first | omega | decide) (show ((t_11.1 22)).toInt ≤ 696 from by first | omega | decide)) (cwV 1 hts g_x_m_feed_1 rfl rfl rfl (by decide +kernel) ⟨Nat.le_of_ble_eq_true rfl, Nat.le_of_ble_eq_true rfl⟩) (x_preV (q := (RX9, TX9, 2)) hK hPs hDs (ci := 8) (q0 := 0) rfl txw_o0) rfl rfl hl.1 rfl (lv_room (Nat.le_of_ble_eq_true rfl)) dX11_feed_44 ⟨Nat.le_of_ble_eq_true rfl, Nat.le_of_ble_eq_true rfl⟩) hP hD hS hA rfl (fun _ => xwd_in_txw (agr_sI (agr_tI (agr_refl _ _) rfl) rfl)) (fun _ => rfl) (fun _ => rfl) rfl (fun u H locs hw hP hD hS => ?_)
    obtain ⟨f_12, n_13⟩ := u
    try dsimp only at hw
    have hP : va_P D vwCl (xwd y ad iv pv tv kt (sI (tI t_11 21 f_12) 22 n_13)) H := hP
    have hD : va_D A (xwd y ad iv pv tv kt (sI (tI t_11 21 f_12) 22 n_13)) := hD
    replace hw : n_13.toInt = ((t_11.1 22)).toInt + 4 := hw
    obtain ⟨t_14, et_14⟩ : ∃ z9 : OS, z9 = (sI (tI t_11 21 f_12) 22 n_13) := ⟨_, rfl⟩
    rw [← et_14] at hP hD
    have qt_14_22 : (t_14.1 22).toInt = n_13.toInt := by rw [et_14]; rfl
    have qt_14_81 : (t_14.1 81).toInt = (t_11.1 81).toInt := by rw [et_14]; rfl
    have qt_14_82 : (t_14.1 82).toInt = (t_11.1 82).toInt := by rw [et_14]; rfl
    have qt_14_85 : (t_14.1 85).toInt = (t_11.1 85).toInt := by rw [et_14]; rfl
    have qt_14_86 : (t_14.1 86).toInt = (t_11.1 86).toInt := by rw [et_14]; rfl
    have qt_14_105 : (t_14.1 105).toInt = (t_11.1 105).toInt := by rw [et_14]; rfl
    have qt_14_137 : (t_14.1 137).toInt = (t_11.1 137).toInt := by rw [et_14]; rfl
    have qt_14_139 : (t_14.1 139).toInt = (t_11.1 139).toInt := by rw [et_14]; rfl
    have qt_14_141 : (t_14.1 141).toInt = (t_11.1 141).toInt := by rw [et_14]; rfl
    have qt_14_183 : (t_14.1 183).toInt = (t_11.1 183).toInt := by rw [et_14]; rfl
    have qt_14_138 : (t_14.1 138).toInt = (t_11.1 138).toInt := by rw [et_14]; rfl
    have qt_14_106 : (t_14.1 106).toInt = (t_11.1 106).toInt := by rw [et_14]; rfl
    have qt_14_107 : (t_14.1 107).toInt = (t_11.1 107).toInt := by rw [et_14]; rfl
    have bt_14_102 : bI (t_14.2.2.1 102) 0 7 := by rw [et_14]; exact bt_11_102
    have bt_14_133 : bI (t_14.2.2.1 133) 0 1358 := by rw [et_14]; exact bt_11_133
    have bt_14_134 : bI (t_14.2.2.1 134) 0 1358 := by rw [et_14]; exact bt_11_134
    have bt_14_135 : bI (t_14.2.2.1 135) 0 1358 := by rw [et_14]; exact bt_11_135
    have bt_14_153 : bI (t_14.2.2.1 153) 0 1358 := by rw [et_14]; exact bt_11_153
    have bt_14_154 : bI (t_14.2.2.1 154) 0 1358 := by rw [et_14]; exact bt_11_154
    have bt_14_155 : bI (t_14.2.2.1 155) 0 1358 := by rw [et_14]; exact bt_11_155
    have hP : va_P D vwCl (xwd y ad iv pv tv kt t_14) H := hP
    have hD : va_D A (xwd y ad iv pv tv kt t_14) := hD
    have haf4 := hw
    refine lv_aload_n hx hb dX11_feed_47 rfl (lv_at hl 0 rfl) ?_
    refine va_get (D := D) (ci := 10) (v := .ref (ad 20)) (C := RX11) (T := TX11) (N := 11) hx hb hts inX11 hown hK hP 0 xwd_o0 rfl 0 (by decide) fl10 (fun _ h9 => h9) rfl dX11_feed_48 ?_
    refine lv_iload hx hb dX11_feed_51 (lv_at hl 5 rfl) ?_
    have hPs : va_P D vwCl (txw y ad t_14) H := x_suP hP [1, 12] rfl
    have hDs : va_D A (txw y ad t_14) := x_suD hD [1, 12] rfl (by decide)
    refine x_callvT (b1 := fun (u : (Nat → Int32) × Int32) => (xwd y ad iv pv tv kt (sI (tI t_14 21 u.1) 22 u.2))) [1, 12] [none, some 0, none, none, none, none, none, none, none, none, none, none, some 1, none, none, none, none, none, none, none, none, none, none, none, none, none, none, none, none, none, none, none, none, none, none, none, none, none, none, none, none, none, none, none, none, none, none, none, none, none, none, none] 2 (va_runV (As := [.int e9]) (rest := []) ⟨hx, hb, hml, hown, hts⟩ (x_addFour l D y H.size ad t_14 e9 (show 0 ≤ ((t_14.1 22)).toInt from by first | omega | decide) (show ((t_14.1 22)).toInt ≤ 696 from by first | omega | decide)) (cwV 1 hts g_x_m_feed_1 rfl rfl rfl (by decide +kernel) ⟨Nat.le_of_ble_eq_true rfl, Nat.le_of_ble_eq_true rfl⟩) (x_preV (q := (RX9, TX9, 2)) hK hPs hDs (ci := 8) (q0 := 0) rfl txw_o0) rfl rfl hl.1 rfl (lv_room (Nat.le_of_ble_eq_true rfl)) dX11_feed_53 ⟨Nat.le_of_ble_eq_true rfl, Nat.le_of_ble_eq_true rfl⟩) hP hD hS hA rfl (fun _ => xwd_in_txw (agr_sI (agr_tI (agr_refl _ _) rfl) rfl)) (fun _ => rfl) (fun _ => rfl) rfl (fun u H locs hw hP hD hS => ?_)
    obtain ⟨f_15, n_16⟩ := u
    try dsimp only at hw
    have hP : va_P D vwCl (xwd y ad iv pv tv kt (sI (tI t_14 21 f_15) 22 n_16)) H := hP
    have hD : va_D A (xwd y ad iv pv tv kt (sI (tI t_14 21 f_15) 22 n_16)) := hD
    replace hw : n_16.toInt = ((t_14.1 22)).toInt + 4 := hw
    obtain ⟨t_17, et_17⟩ : ∃ z9 : OS, z9 = (sI (tI t_14 21 f_15) 22 n_16) := ⟨_, rfl⟩
    rw [← et_17] at hP hD
    have qt_17_22 : (t_17.1 22).toInt = n_16.toInt := by rw [et_17]; rfl
    have qt_17_81 : (t_17.1 81).toInt = (t_14.1 81).toInt := by rw [et_17]; rfl
    have qt_17_82 : (t_17.1 82).toInt = (t_14.1 82).toInt := by rw [et_17]; rfl
    have qt_17_85 : (t_17.1 85).toInt = (t_14.1 85).toInt := by rw [et_17]; rfl
    have qt_17_86 : (t_17.1 86).toInt = (t_14.1 86).toInt := by rw [et_17]; rfl
    have qt_17_105 : (t_17.1 105).toInt = (t_14.1 105).toInt := by rw [et_17]; rfl
    have qt_17_137 : (t_17.1 137).toInt = (t_14.1 137).toInt := by rw [et_17]; rfl
    have qt_17_139 : (t_17.1 139).toInt = (t_14.1 139).toInt := by rw [et_17]; rfl
    have qt_17_141 : (t_17.1 141).toInt = (t_14.1 141).toInt := by rw [et_17]; rfl
    have qt_17_183 : (t_17.1 183).toInt = (t_14.1 183).toInt := by rw [et_17]; rfl
    have qt_17_138 : (t_17.1 138).toInt = (t_14.1 138).toInt := by rw [et_17]; rfl
    have qt_17_106 : (t_17.1 106).toInt = (t_14.1 106).toInt := by rw [et_17]; rfl
    have qt_17_107 : (t_17.1 107).toInt = (t_14.1 107).toInt := by rw [et_17]; rfl
    have bt_17_102 : bI (t_17.2.2.1 102) 0 7 := by rw [et_17]; exact bt_14_102
    have bt_17_133 : bI (t_17.2.2.1 133) 0 1358 := by rw [et_17]; exact bt_14_133
    have bt_17_134 : bI (t_17.2.2.1 134) 0 1358 := by rw [et_17]; exact bt_14_134
    have bt_17_135 : bI (t_17.2.2.1 135) 0 1358 := by rw [et_17]; exact bt_14_135
    have bt_17_153 : bI (t_17.2.2.1 153) 0 1358 := by rw [et_17]; exact bt_14_153
    have bt_17_154 : bI (t_17.2.2.1 154) 0 1358 := by rw [et_17]; exact bt_14_154
    have bt_17_155 : bI (t_17.2.2.1 155) 0 1358 := by rw [et_17]; exact bt_14_155
    have hP : va_P D vwCl (xwd y ad iv pv tv kt t_17) H := hP
    have hD : va_D A (xwd y ad iv pv tv kt t_17) := hD
    have haf5 := hw
    refine lv_aload_n hx hb dX11_feed_56 rfl (lv_at hl 0 rfl) ?_
    refine va_get (D := D) (ci := 10) (v := .ref (ad 20)) (C := RX11) (T := TX11) (N := 11) hx hb hts inX11 hown hK hP 0 xwd_o0 rfl 0 (by decide) fl10 (fun _ h9 => h9) rfl dX11_feed_57 ?_
    have hPs : va_P D vwCl (txw y ad t_17) H := x_suP hP [1, 12] rfl
    have hDs : va_D A (txw y ad t_17) := x_suD hD [1, 12] rfl (by decide)
    refine x_calliT (b1 := fun (u : Unit) => (xwd y ad iv pv tv kt t_17)) [1, 12] [none, some 0, none, none, none, none, none, none, none, none, none, none, some 1, none, none, none, none, none, none, none, none, none, none, none, none, none, none, none, none, none, none, none, none, none, none, none, none, none, none, none, none, none, none, none, none, none, none, none, none, none, none, none] 2 (va_runV (As := []) (rest := []) ⟨hx, hb, hml, hown, hts⟩ (x_size l D y H.size ad t_17 ) (cwV 0 hts g_x_m_feed_2 rfl rfl rfl (by decide +kernel) ⟨Nat.le_of_ble_eq_true rfl, Nat.le_of_ble_eq_true rfl⟩) (x_preV (q := (RX9, TX9, 2)) hK hPs hDs (ci := 8) (q0 := 0) rfl txw_o0) rfl rfl hl.1 rfl (lv_room (Nat.le_of_ble_eq_true rfl)) dX11_feed_60 ⟨Nat.le_of_ble_eq_true rfl, Nat.le_of_ble_eq_true rfl⟩) hP hD hS hA rfl (fun _ => xwd_in_txw (agr_refl _ _)) (fun _ => rfl) (fun _ => rfl) rfl (fun r_18 u H locs hw hP hD hS => ?_)
    try dsimp only at hw
    have hP : va_P D vwCl (xwd y ad iv pv tv kt t_17) H := hP
    have hD : va_D A (xwd y ad iv pv tv kt t_17) := hD
    replace hw : r_18 = (t_17.1 22) := hw
    have hsz : r_18.toInt = (t_17.1 22).toInt := by rw [hw]
    exact x_iretW (v := r_18) (u := t_17) hx hb hr hQ ⟨(show 0 ≤ ((t_17.1 22)).toInt ∧ ((t_17.1 22)).toInt ≤ 700 ∧ 0 ≤ ((t_17.1 81)).toInt ∧ ((t_17.1 81)).toInt ≤ 8 ∧ 0 ≤ ((t_17.1 82)).toInt ∧ ((t_17.1 82)).toInt ≤ 4 ∧ 0 ≤ ((t_17.1 85)).toInt ∧ ((t_17.1 85)).toInt ≤ 350 ∧ 0 ≤ ((t_17.1 86)).toInt ∧ ((t_17.1 86)).toInt ≤ 700 ∧ 0 ≤ ((t_17.1 105)).toInt ∧ ((t_17.1 105)).toInt ≤ 8 ∧ 0 ≤ ((t_17.1 137)).toInt ∧ ((t_17.1 137)).toInt ≤ 8 ∧ 0 ≤ ((t_17.1 139)).toInt ∧ ((t_17.1 139)).toInt ≤ 1359 ∧ 0 ≤ ((t_17.1 141)).toInt ∧ ((t_17.1 141)).toInt ≤ 12 ∧ 0 ≤ ((t_17.1 183)).toInt ∧ ((t_17.1 183)).toInt ≤ 8 ∧ 0 ≤ ((t_17.1 138)).toInt ∧ 0 ≤ ((t_17.1 106)).toInt ∧ ((t_17.1 106)).toInt ≤ ((t_17.1 107)).toInt ∧ ((t_17.1 107)).toInt ≤ 40 ∧ bI ((t_17.2.2.1 102)) 0 7 ∧ bI ((t_17.2.2.1 133)) 0 1358 ∧ bI ((t_17.2.2.1 134)) 0 1358 ∧ bI ((t_17.2.2.1 135)) 0 1358 ∧ bI ((t_17.2.2.1 153)) 0 1358 ∧ bI ((t_17.2.2.1 154)) 0 1358 ∧ bI ((t_17.2.2.1 155)) 0 1358 from ⟨by omega, by omega, by omega, by omega, by omega, by omega, by omega, by omega, by omega, by omega, by omega, by omega, by omega, by omega, by omega, by omega, by omega, by omega, by omega, by omega, by omega, by omega, by omega, by omega, bt_17_102, bt_17_133, bt_17_134, bt_17_135, bt_17_153, bt_17_154, bt_17_155⟩), Or.inr ⟨by omega, by omega, by omega⟩⟩ hP hD hK hS dX11_feed_63 hlocks
  · have kc_2 : r_1.toInt = 0 := by have h9 := c_2; simp only [ge_iff_le, gt_iff_lt, x_lt, x_le, x_eq, ne_eq, Int32.not_lt, Int32.not_le] at h9; simp only [Int32.reduceToInt] at h9; omega
    refine lv_iconst (v := (-1)) hx hb dX11_feed_12 (by decide) ?_
    exact x_iretW (v := (-1)) (u := σ) hx hb hr hQ ⟨(show 0 ≤ ((σ.1 22)).toInt ∧ ((σ.1 22)).toInt ≤ 700 ∧ 0 ≤ ((σ.1 81)).toInt ∧ ((σ.1 81)).toInt ≤ 8 ∧ 0 ≤ ((σ.1 82)).toInt ∧ ((σ.1 82)).toInt ≤ 4 ∧ 0 ≤ ((σ.1 85)).toInt ∧ ((σ.1 85)).toInt ≤ 350 ∧ 0 ≤ ((σ.1 86)).toInt ∧ ((σ.1 86)).toInt ≤ 700 ∧ 0 ≤ ((σ.1 105)).toInt ∧ ((σ.1 105)).toInt ≤ 8 ∧ 0 ≤ ((σ.1 137)).toInt ∧ ((σ.1 137)).toInt ≤ 8 ∧ 0 ≤ ((σ.1 139)).toInt ∧ ((σ.1 139)).toInt ≤ 1359 ∧ 0 ≤ ((σ.1 141)).toInt ∧ ((σ.1 141)).toInt ≤ 12 ∧ 0 ≤ ((σ.1 183)).toInt ∧ ((σ.1 183)).toInt ≤ 8 ∧ 0 ≤ ((σ.1 138)).toInt ∧ 0 ≤ ((σ.1 106)).toInt ∧ ((σ.1 106)).toInt ≤ ((σ.1 107)).toInt ∧ ((σ.1 107)).toInt ≤ 40 ∧ bI ((σ.2.2.1 102)) 0 7 ∧ bI ((σ.2.2.1 133)) 0 1358 ∧ bI ((σ.2.2.1 134)) 0 1358 ∧ bI ((σ.2.2.1 135)) 0 1358 ∧ bI ((σ.2.2.1 153)) 0 1358 ∧ bI ((σ.2.2.1 154)) 0 1358 ∧ bI ((σ.2.2.1 155)) 0 1358 from ⟨by omega, by omega, by omega, by omega, by omega, by omega, by omega, by omega, by omega, by omega, by omega, by omega, by omega, by omega, by omega, by omega, by omega, by omega, by omega, by omega, by omega, by omega, by omega, by omega, hxb102, hxb133, hxb134, hxb135, hxb153, hxb154, hxb155⟩), Or.inl ⟨rfl, by omega, rfl⟩⟩ hP hD hK hS dX11_feed_13 hlocks

def v_x_m_end : List Cond := .code yX11_end cX11_end 2 (some .boolean) :: ([.fieldLink RX11 10 "SlopeRunner" "text" "LSlopeRunner$Text;"] ++ ((wsV RX11 90 RX9 yX9_cutTo v_x_cutTo) ++ wsX110))
theorem g_x_m_end_0 : GoodIn v_x_m_end (wsV RX11 90 RX9 yX9_cutTo v_x_cutTo) := goodIn_sub (fun w h => List.mem_cons_of_mem _ (List.mem_append_right _ (List.mem_append_left _ h))) (by decide +kernel)
set_option maxHeartbeats 4000000 in
set_option maxRecDepth 100000 in
theorem x_m_end (l : Launch) (D : va_G) (y : Nat → ClassId) (sz : Nat) (ad : Nat → Nat) (iv : Value) (pv : Value) (tv : Value) (kt : va_W) (σ : OS) (q : Int32) (hxi : XI σ) : Met l yX11_end v_x_m_end ({ frames := 1, cells := 0, slots := 0, locals := 21 } : Room) (va_Pc [.ref (ad 0), .int q] (xPre D (xT y) (xwd y ad iv pv tv kt σ) sz)) (va_Qi (fun (r : Int32) (u : OS) => XI u ∧ ((r.toInt = 0 ∧ (q.toInt < 0 ∨ (σ.1 22).toInt < q.toInt) ∧ (u.1 22).toInt = (σ.1 22).toInt) ∨ (r.toInt = 1 ∧ 0 ≤ q.toInt ∧ q.toInt ≤ (σ.1 22).toInt ∧ (u.1 22).toInt = q.toInt))) (fun (u : OS) => xB D (xT y) (va_A (xwd y ad iv pv tv kt σ) sz) (xwd y ad iv pv tv kt u)) (va_A (xwd y ad iv pv tv kt σ) sz)) 0 0 (va_A (xwd y ad iv pv tv kt σ) sz) := by
  refine x_meti (cc := cX11_end) (maxL := 2) (by decide) rfl (Nat.le_of_ble_eq_true rfl) ?_
  intro p e s m below meth c A H locs Q hx hb hml hown hts hr hlocks hmn hA hP hK hD hS ls hl hQ
  have hl : lv_has ls 2 [(0, .ref (ad 0)), (1, .int q)] := hl
  have fl10 := hts (.fieldLink RX11 10 "SlopeRunner" "text" "LSlopeRunner$Text;") (List.mem_of_getElem? (i := 1) rfl)
  have inX11 : ∀ w ∈ wsX110, w ∈ v_x_m_end := (fun w h => List.mem_cons_of_mem _ (List.mem_append_right _ (List.mem_append_right _ h)))
  obtain ⟨hxi0, hxi1, hxi2, hxi3, hxi4, hxi5, hxi6, hxi7, hxi8, hxi9, hxi10, hxi11, hxi12, hxi13, hxi14, hxi15, hxi16, hxi17, hxi18, hxi19, hxi20, hxi21, hxi22, hxi23, hxb102, hxb133, hxb134, hxb135, hxb153, hxb154, hxb155⟩ := hxi
  refine lv_aload_n hx hb dX11_end_0 rfl (lv_at hl 0 rfl) ?_
  refine va_get (D := D) (ci := 10) (v := .ref (ad 20)) (C := RX11) (T := TX11) (N := 11) hx hb hts inX11 hown hK hP 0 xwd_o0 rfl 0 (by decide) fl10 (fun _ h9 => h9) rfl dX11_end_1 ?_
  refine lv_iload_n hx hb dX11_end_4 rfl (lv_at hl 1 rfl) ?_
  have hPs : va_P D vwCl (txw y ad σ) H := x_suP hP [1, 12] rfl
  have hDs : va_D A (txw y ad σ) := x_suD hD [1, 12] rfl (by decide)
  refine x_calliT (b1 := fun (u : Int32) => (xwd y ad iv pv tv kt (sI σ 22 u))) [1, 12] [none, some 0, none, none, none, none, none, none, none, none, none, none, some 1, none, none, none, none, none, none, none, none, none, none, none, none, none, none, none, none, none, none, none, none, none, none, none, none, none, none, none, none, none, none, none, none, none, none, none, none, none, none, none] 2 (va_runV (As := [.int q]) (rest := []) ⟨hx, hb, hml, hown, hts⟩ (x_cutTo l D y H.size ad σ q (show 0 ≤ ((σ.1 22)).toInt from by first | omega | decide) (show ((σ.1 22)).toInt ≤ 700 from by first | omega | decide)) (cwV 1 hts g_x_m_end_0 rfl rfl rfl (by decide +kernel) ⟨Nat.le_of_ble_eq_true rfl, Nat.le_of_ble_eq_true rfl⟩) (x_preV (q := (RX9, TX9, 2)) hK hPs hDs (ci := 8) (q0 := 0) rfl txw_o0) rfl rfl hl.1 rfl (lv_room (Nat.le_of_ble_eq_true rfl)) dX11_end_5 ⟨Nat.le_of_ble_eq_true rfl, Nat.le_of_ble_eq_true rfl⟩) hP hD hS hA rfl (fun _ => xwd_in_txw (agr_sI (agr_refl _ _) rfl)) (fun _ => rfl) (fun _ => rfl) rfl (fun r_1 u H locs hw hP hD hS => ?_)
  obtain ⟨n_2, rfl⟩ : ∃ z9, z9 = u := ⟨_, rfl⟩
  try dsimp only at hw
  have hP : va_P D vwCl (xwd y ad iv pv tv kt (sI σ 22 n_2)) H := hP
  have hD : va_D A (xwd y ad iv pv tv kt (sI σ 22 n_2)) := hD
  replace hw : (r_1.toInt = 0 ∧ (q.toInt < 0 ∨ ((σ.1 22)).toInt < q.toInt) ∧ n_2 = (σ.1 22)) ∨ (r_1.toInt = 1 ∧ 0 ≤ q.toInt ∧ q.toInt ≤ ((σ.1 22)).toInt ∧ n_2 = q) := hw
  obtain ⟨t_3, et_3⟩ : ∃ z9 : OS, z9 = (sI σ 22 n_2) := ⟨_, rfl⟩
  rw [← et_3] at hP hD
  have qt_3_22 : (t_3.1 22).toInt = n_2.toInt := by rw [et_3]; rfl
  have qt_3_81 : (t_3.1 81).toInt = (σ.1 81).toInt := by rw [et_3]; rfl
  have qt_3_82 : (t_3.1 82).toInt = (σ.1 82).toInt := by rw [et_3]; rfl
  have qt_3_85 : (t_3.1 85).toInt = (σ.1 85).toInt := by rw [et_3]; rfl
  have qt_3_86 : (t_3.1 86).toInt = (σ.1 86).toInt := by rw [et_3]; rfl
  have qt_3_105 : (t_3.1 105).toInt = (σ.1 105).toInt := by rw [et_3]; rfl
  have qt_3_137 : (t_3.1 137).toInt = (σ.1 137).toInt := by rw [et_3]; rfl
  have qt_3_139 : (t_3.1 139).toInt = (σ.1 139).toInt := by rw [et_3]; rfl
  have qt_3_141 : (t_3.1 141).toInt = (σ.1 141).toInt := by rw [et_3]; rfl
  have qt_3_183 : (t_3.1 183).toInt = (σ.1 183).toInt := by rw [et_3]; rfl
  have qt_3_138 : (t_3.1 138).toInt = (σ.1 138).toInt := by rw [et_3]; rfl
  have qt_3_106 : (t_3.1 106).toInt = (σ.1 106).toInt := by rw [et_3]; rfl
  have qt_3_107 : (t_3.1 107).toInt = (σ.1 107).toInt := by rw [et_3]; rfl
  have bt_3_102 : bI (t_3.2.2.1 102) 0 7 := by rw [et_3]; exact hxb102
  have bt_3_133 : bI (t_3.2.2.1 133) 0 1358 := by rw [et_3]; exact hxb133
  have bt_3_134 : bI (t_3.2.2.1 134) 0 1358 := by rw [et_3]; exact hxb134
  have bt_3_135 : bI (t_3.2.2.1 135) 0 1358 := by rw [et_3]; exact hxb135
  have bt_3_153 : bI (t_3.2.2.1 153) 0 1358 := by rw [et_3]; exact hxb153
  have bt_3_154 : bI (t_3.2.2.1 154) 0 1358 := by rw [et_3]; exact hxb154
  have bt_3_155 : bI (t_3.2.2.1 155) 0 1358 := by rw [et_3]; exact hxb155
  have hP : va_P D vwCl (xwd y ad iv pv tv kt t_3) H := hP
  have hD : va_D A (xwd y ad iv pv tv kt t_3) := hD
  have hct : (r_1.toInt = 0 ∧ (q.toInt < 0 ∨ (σ.1 22).toInt < q.toInt) ∧ n_2.toInt = (σ.1 22).toInt) ∨ (r_1.toInt = 1 ∧ 0 ≤ q.toInt ∧ q.toInt ≤ (σ.1 22).toInt ∧ n_2.toInt = q.toInt) := by rcases hw with ⟨h7, h8, h9⟩ | ⟨h6, h7, h8, h9⟩ <;> first | exact Or.inl ⟨h7, h8, by rw [h9]⟩ | exact Or.inr ⟨h6, h7, h8, by rw [h9]⟩
  clear hw
  exact x_zretW (v := r_1) (u := t_3) hx hb hr hQ (x_01 (by omega)) ⟨(show 0 ≤ ((t_3.1 22)).toInt ∧ ((t_3.1 22)).toInt ≤ 700 ∧ 0 ≤ ((t_3.1 81)).toInt ∧ ((t_3.1 81)).toInt ≤ 8 ∧ 0 ≤ ((t_3.1 82)).toInt ∧ ((t_3.1 82)).toInt ≤ 4 ∧ 0 ≤ ((t_3.1 85)).toInt ∧ ((t_3.1 85)).toInt ≤ 350 ∧ 0 ≤ ((t_3.1 86)).toInt ∧ ((t_3.1 86)).toInt ≤ 700 ∧ 0 ≤ ((t_3.1 105)).toInt ∧ ((t_3.1 105)).toInt ≤ 8 ∧ 0 ≤ ((t_3.1 137)).toInt ∧ ((t_3.1 137)).toInt ≤ 8 ∧ 0 ≤ ((t_3.1 139)).toInt ∧ ((t_3.1 139)).toInt ≤ 1359 ∧ 0 ≤ ((t_3.1 141)).toInt ∧ ((t_3.1 141)).toInt ≤ 12 ∧ 0 ≤ ((t_3.1 183)).toInt ∧ ((t_3.1 183)).toInt ≤ 8 ∧ 0 ≤ ((t_3.1 138)).toInt ∧ 0 ≤ ((t_3.1 106)).toInt ∧ ((t_3.1 106)).toInt ≤ ((t_3.1 107)).toInt ∧ ((t_3.1 107)).toInt ≤ 40 ∧ bI ((t_3.2.2.1 102)) 0 7 ∧ bI ((t_3.2.2.1 133)) 0 1358 ∧ bI ((t_3.2.2.1 134)) 0 1358 ∧ bI ((t_3.2.2.1 135)) 0 1358 ∧ bI ((t_3.2.2.1 153)) 0 1358 ∧ bI ((t_3.2.2.1 154)) 0 1358 ∧ bI ((t_3.2.2.1 155)) 0 1358 from ⟨by omega, by omega, by omega, by omega, by omega, by omega, by omega, by omega, by omega, by omega, by omega, by omega, by omega, by omega, by omega, by omega, by omega, by omega, by omega, by omega, by omega, by omega, by omega, by omega, bt_3_102, bt_3_133, bt_3_134, bt_3_135, bt_3_153, bt_3_154, bt_3_155⟩), (by omega)⟩ hP hD hK hS dX11_end_8 hlocks

def v_x_m_fault : List Cond := .code yX11_fault cX11_fault 2 (some .int) :: ([.fieldLink RX11 19 "SlopeRunner" "parser" "LSlopeRunner$Parser;"] ++ ((wsV RX11 110 RX5 yX5_faultKind v_x_faultKind) ++ ((wsV RX11 113 RX5 yX5_faultPlace v_x_faultPlace) ++ wsX110)))
theorem g_x_m_fault_0 : GoodIn v_x_m_fault (wsV RX11 110 RX5 yX5_faultKind v_x_faultKind) := goodIn_sub (fun w h => List.mem_cons_of_mem _ (List.mem_append_right _ (List.mem_append_left _ h))) (by decide +kernel)
theorem g_x_m_fault_1 : GoodIn v_x_m_fault (wsV RX11 113 RX5 yX5_faultPlace v_x_faultPlace) := goodIn_sub (fun w h => List.mem_cons_of_mem _ (List.mem_append_right _ (List.mem_append_right _ (List.mem_append_left _ h)))) (by decide +kernel)
set_option maxHeartbeats 4000000 in
set_option maxRecDepth 100000 in
theorem x_m_fault (l : Launch) (D : va_G) (y : Nat → ClassId) (sz : Nat) (ad : Nat → Nat) (iv : Value) (pv : Value) (tv : Value) (kt : va_W) (σ : OS) (q : Int32) (hxi : XI σ) : Met l yX11_fault v_x_m_fault ({ frames := 1, cells := 0, slots := 0, locals := 20 } : Room) (va_Pc [.ref (ad 0), .int q] (xPre D (xT y) (xwd y ad iv pv tv kt σ) sz)) (va_Qi (fun (r : Int32) (u : OS) => XI u ∧ ((u.1 22) = σ.1 22)) (fun (u : OS) => xB D (xT y) (va_A (xwd y ad iv pv tv kt σ) sz) (xwd y ad iv pv tv kt u)) (va_A (xwd y ad iv pv tv kt σ) sz)) 0 0 (va_A (xwd y ad iv pv tv kt σ) sz) := by
  refine x_meti (cc := cX11_fault) (maxL := 2) (by decide) rfl (Nat.le_of_ble_eq_true rfl) ?_
  intro p e s m below meth c A H locs Q hx hb hml hown hts hr hlocks hmn hA hP hK hD hS ls hl hQ
  have hl : lv_has ls 2 [(0, .ref (ad 0)), (1, .int q)] := hl
  have fl19 := hts (.fieldLink RX11 19 "SlopeRunner" "parser" "LSlopeRunner$Parser;") (List.mem_of_getElem? (i := 1) rfl)
  have inX11 : ∀ w ∈ wsX110, w ∈ v_x_m_fault := (fun w h => List.mem_cons_of_mem _ (List.mem_append_right _ (List.mem_append_right _ (List.mem_append_right _ h))))
  have kk_m1 : ((-1) : Int32).toInt = -1 := rfl
  obtain ⟨hxi0, hxi1, hxi2, hxi3, hxi4, hxi5, hxi6, hxi7, hxi8, hxi9, hxi10, hxi11, hxi12, hxi13, hxi14, hxi15, hxi16, hxi17, hxi18, hxi19, hxi20, hxi21, hxi22, hxi23, hxb102, hxb133, hxb134, hxb135, hxb153, hxb154, hxb155⟩ := hxi
  refine lv_iload_n hx hb dX11_fault_0 rfl (lv_at hl 1 rfl) ?_
  rcases (show q = 0 ∨ q = 1 ∨ (¬ q = 0 ∧ ¬ q = 1) by simp only [x_eq, Int32.reduceToInt]; omega) with rfl | rfl | ⟨g_1_0, g_1_1⟩
  · refine lv_lookup (tgt := 28) (off := 27) hx hb dX11_fault_1 (by decide) (by decide) (by decide) ?_
    refine lv_aload_n hx hb dX11_fault_28 rfl (lv_at hl 0 rfl) ?_
    refine va_get (D := D) (ci := 10) (v := .ref (ad 30)) (C := RX11) (T := TX11) (N := 11) hx hb hts inX11 hown hK hP 0 xwd_o0 rfl 1 (by decide) fl19 (fun _ h9 => h9) rfl dX11_fault_29 ?_
    have hPs : va_P D vwCl (paw y ad iv σ) H := x_suP hP [2] rfl
    have hDs : va_D A (paw y ad iv σ) := x_suD hD [2] rfl (by decide)
    refine x_calliT (b1 := fun (u : Unit) => (xwd y ad iv pv tv kt σ)) [2] [none, none, some 0, none, none, none, none, none, none, none, none, none, none, none, none, none, none, none, none, none, none, none, none, none, none, none, none, none, none, none, none, none, none, none, none, none, none, none, none, none, none, none, none, none, none, none, none, none, none, none, none, none] 1 (va_runV (As := []) (rest := []) ⟨hx, hb, hml, hown, hts⟩ (x_faultKind l D y H.size ad iv σ ) (cwV 0 hts g_x_m_fault_0 rfl rfl rfl (by decide +kernel) ⟨Nat.le_of_ble_eq_true rfl, Nat.le_of_ble_eq_true rfl⟩) (x_preV (q := (RX5, TX5, 8)) hK hPs hDs (ci := 4) (q0 := 0) rfl paw_o0) rfl rfl hl.1 rfl (lv_room (Nat.le_of_ble_eq_true rfl)) dX11_fault_32 ⟨Nat.le_of_ble_eq_true rfl, Nat.le_of_ble_eq_true rfl⟩) hP hD hS hA rfl (fun _ => xwd_in_paw (agr_refl _ _)) (fun _ => rfl) (fun _ => rfl) rfl (fun r_2 u H locs hw hP hD hS => ?_)
    try dsimp only at hw
    have hP : va_P D vwCl (xwd y ad iv pv tv kt σ) H := hP
    have hD : va_D A (xwd y ad iv pv tv kt σ) := hD
    exact x_iretW (v := r_2) (u := σ) hx hb hr hQ ⟨(show 0 ≤ ((σ.1 22)).toInt ∧ ((σ.1 22)).toInt ≤ 700 ∧ 0 ≤ ((σ.1 81)).toInt ∧ ((σ.1 81)).toInt ≤ 8 ∧ 0 ≤ ((σ.1 82)).toInt ∧ ((σ.1 82)).toInt ≤ 4 ∧ 0 ≤ ((σ.1 85)).toInt ∧ ((σ.1 85)).toInt ≤ 350 ∧ 0 ≤ ((σ.1 86)).toInt ∧ ((σ.1 86)).toInt ≤ 700 ∧ 0 ≤ ((σ.1 105)).toInt ∧ ((σ.1 105)).toInt ≤ 8 ∧ 0 ≤ ((σ.1 137)).toInt ∧ ((σ.1 137)).toInt ≤ 8 ∧ 0 ≤ ((σ.1 139)).toInt ∧ ((σ.1 139)).toInt ≤ 1359 ∧ 0 ≤ ((σ.1 141)).toInt ∧ ((σ.1 141)).toInt ≤ 12 ∧ 0 ≤ ((σ.1 183)).toInt ∧ ((σ.1 183)).toInt ≤ 8 ∧ 0 ≤ ((σ.1 138)).toInt ∧ 0 ≤ ((σ.1 106)).toInt ∧ ((σ.1 106)).toInt ≤ ((σ.1 107)).toInt ∧ ((σ.1 107)).toInt ≤ 40 ∧ bI ((σ.2.2.1 102)) 0 7 ∧ bI ((σ.2.2.1 133)) 0 1358 ∧ bI ((σ.2.2.1 134)) 0 1358 ∧ bI ((σ.2.2.1 135)) 0 1358 ∧ bI ((σ.2.2.1 153)) 0 1358 ∧ bI ((σ.2.2.1 154)) 0 1358 ∧ bI ((σ.2.2.1 155)) 0 1358 from ⟨by omega, by omega, by omega, by omega, by omega, by omega, by omega, by omega, by omega, by omega, by omega, by omega, by omega, by omega, by omega, by omega, by omega, by omega, by omega, by omega, by omega, by omega, by omega, by omega, hxb102, hxb133, hxb134, hxb135, hxb153, hxb154, hxb155⟩), rfl⟩ hP hD hK hS dX11_fault_35 hlocks
  · refine lv_lookup (tgt := 36) (off := 35) hx hb dX11_fault_1 (by decide) (by decide) (by decide) ?_
    refine lv_aload_n hx hb dX11_fault_36 rfl (lv_at hl 0 rfl) ?_
    refine va_get (D := D) (ci := 10) (v := .ref (ad 30)) (C := RX11) (T := TX11) (N := 11) hx hb hts inX11 hown hK hP 0 xwd_o0 rfl 1 (by decide) fl19 (fun _ h9 => h9) rfl dX11_fault_37 ?_
    have hPs : va_P D vwCl (paw y ad iv σ) H := x_suP hP [2] rfl
    have hDs : va_D A (paw y ad iv σ) := x_suD hD [2] rfl (by decide)
    refine x_calliT (b1 := fun (u : Unit) => (xwd y ad iv pv tv kt σ)) [2] [none, none, some 0, none, none, none, none, none, none, none, none, none, none, none, none, none, none, none, none, none, none, none, none, none, none, none, none, none, none, none, none, none, none, none, none, none, none, none, none, none, none, none, none, none, none, none, none, none, none, none, none, none] 1 (va_runV (As := []) (rest := []) ⟨hx, hb, hml, hown, hts⟩ (x_faultPlace l D y H.size ad iv σ ) (cwV 0 hts g_x_m_fault_1 rfl rfl rfl (by decide +kernel) ⟨Nat.le_of_ble_eq_true rfl, Nat.le_of_ble_eq_true rfl⟩) (x_preV (q := (RX5, TX5, 8)) hK hPs hDs (ci := 4) (q0 := 0) rfl paw_o0) rfl rfl hl.1 rfl (lv_room (Nat.le_of_ble_eq_true rfl)) dX11_fault_40 ⟨Nat.le_of_ble_eq_true rfl, Nat.le_of_ble_eq_true rfl⟩) hP hD hS hA rfl (fun _ => xwd_in_paw (agr_refl _ _)) (fun _ => rfl) (fun _ => rfl) rfl (fun r_3 u H locs hw hP hD hS => ?_)
    try dsimp only at hw
    have hP : va_P D vwCl (xwd y ad iv pv tv kt σ) H := hP
    have hD : va_D A (xwd y ad iv pv tv kt σ) := hD
    exact x_iretW (v := r_3) (u := σ) hx hb hr hQ ⟨(show 0 ≤ ((σ.1 22)).toInt ∧ ((σ.1 22)).toInt ≤ 700 ∧ 0 ≤ ((σ.1 81)).toInt ∧ ((σ.1 81)).toInt ≤ 8 ∧ 0 ≤ ((σ.1 82)).toInt ∧ ((σ.1 82)).toInt ≤ 4 ∧ 0 ≤ ((σ.1 85)).toInt ∧ ((σ.1 85)).toInt ≤ 350 ∧ 0 ≤ ((σ.1 86)).toInt ∧ ((σ.1 86)).toInt ≤ 700 ∧ 0 ≤ ((σ.1 105)).toInt ∧ ((σ.1 105)).toInt ≤ 8 ∧ 0 ≤ ((σ.1 137)).toInt ∧ ((σ.1 137)).toInt ≤ 8 ∧ 0 ≤ ((σ.1 139)).toInt ∧ ((σ.1 139)).toInt ≤ 1359 ∧ 0 ≤ ((σ.1 141)).toInt ∧ ((σ.1 141)).toInt ≤ 12 ∧ 0 ≤ ((σ.1 183)).toInt ∧ ((σ.1 183)).toInt ≤ 8 ∧ 0 ≤ ((σ.1 138)).toInt ∧ 0 ≤ ((σ.1 106)).toInt ∧ ((σ.1 106)).toInt ≤ ((σ.1 107)).toInt ∧ ((σ.1 107)).toInt ≤ 40 ∧ bI ((σ.2.2.1 102)) 0 7 ∧ bI ((σ.2.2.1 133)) 0 1358 ∧ bI ((σ.2.2.1 134)) 0 1358 ∧ bI ((σ.2.2.1 135)) 0 1358 ∧ bI ((σ.2.2.1 153)) 0 1358 ∧ bI ((σ.2.2.1 154)) 0 1358 ∧ bI ((σ.2.2.1 155)) 0 1358 from ⟨by omega, by omega, by omega, by omega, by omega, by omega, by omega, by omega, by omega, by omega, by omega, by omega, by omega, by omega, by omega, by omega, by omega, by omega, by omega, by omega, by omega, by omega, by omega, by omega, hxb102, hxb133, hxb134, hxb135, hxb153, hxb154, hxb155⟩), rfl⟩ hP hD hK hS dX11_fault_43 hlocks
  · refine lv_lookup (tgt := 44) (off := 43) hx hb dX11_fault_1 (by decide) ((lv_osw g_1_0 rfl).trans ((lv_osw g_1_1 rfl).trans rfl)) (by decide) ?_
    refine lv_iconst (v := (-1)) hx hb dX11_fault_44 (by decide) ?_
    exact x_iretW (v := (-1)) (u := σ) hx hb hr hQ ⟨(show 0 ≤ ((σ.1 22)).toInt ∧ ((σ.1 22)).toInt ≤ 700 ∧ 0 ≤ ((σ.1 81)).toInt ∧ ((σ.1 81)).toInt ≤ 8 ∧ 0 ≤ ((σ.1 82)).toInt ∧ ((σ.1 82)).toInt ≤ 4 ∧ 0 ≤ ((σ.1 85)).toInt ∧ ((σ.1 85)).toInt ≤ 350 ∧ 0 ≤ ((σ.1 86)).toInt ∧ ((σ.1 86)).toInt ≤ 700 ∧ 0 ≤ ((σ.1 105)).toInt ∧ ((σ.1 105)).toInt ≤ 8 ∧ 0 ≤ ((σ.1 137)).toInt ∧ ((σ.1 137)).toInt ≤ 8 ∧ 0 ≤ ((σ.1 139)).toInt ∧ ((σ.1 139)).toInt ≤ 1359 ∧ 0 ≤ ((σ.1 141)).toInt ∧ ((σ.1 141)).toInt ≤ 12 ∧ 0 ≤ ((σ.1 183)).toInt ∧ ((σ.1 183)).toInt ≤ 8 ∧ 0 ≤ ((σ.1 138)).toInt ∧ 0 ≤ ((σ.1 106)).toInt ∧ ((σ.1 106)).toInt ≤ ((σ.1 107)).toInt ∧ ((σ.1 107)).toInt ≤ 40 ∧ bI ((σ.2.2.1 102)) 0 7 ∧ bI ((σ.2.2.1 133)) 0 1358 ∧ bI ((σ.2.2.1 134)) 0 1358 ∧ bI ((σ.2.2.1 135)) 0 1358 ∧ bI ((σ.2.2.1 153)) 0 1358 ∧ bI ((σ.2.2.1 154)) 0 1358 ∧ bI ((σ.2.2.1 155)) 0 1358 from ⟨by omega, by omega, by omega, by omega, by omega, by omega, by omega, by omega, by omega, by omega, by omega, by omega, by omega, by omega, by omega, by omega, by omega, by omega, by omega, by omega, by omega, by omega, by omega, by omega, hxb102, hxb133, hxb134, hxb135, hxb153, hxb154, hxb155⟩), rfl⟩ hP hD hK hS dX11_fault_45 hlocks

def v_x_m_has : List Cond := .code yX11_has cX11_has 2 (some .int) :: ([.fieldLink RX11 71 "SlopeRunner" "current" "LSlopeRunner$Program;", .fieldLink RX11 97 "SlopeRunner$Program" "inputs" "I", .fieldLink RX11 116 "SlopeRunner$Program" "rows" "I", .fieldLink RX11 119 "SlopeRunner$Program" "vars" "I", .fieldLink RX11 107 "SlopeRunner$Program" "statements" "I", .fieldLink RX11 122 "SlopeRunner$Program" "numbers" "I"] ++ (wsX110 ++ wsX60))
set_option maxHeartbeats 4000000 in
set_option maxRecDepth 100000 in
theorem x_m_has (l : Launch) (D : va_G) (y : Nat → ClassId) (sz : Nat) (ad : Nat → Nat) (iv : Value) (pv : Value) (tv : Value) (kt : va_W) (σ : OS) (q : Int32) (hxi : XI σ) : Met l yX11_has v_x_m_has ({ frames := 0, cells := 0, slots := 0, locals := 0 } : Room) (va_Pc [.ref (ad 0), .int q] (xPre D (xT y) (xwd y ad iv pv tv kt σ) sz)) (va_Qi (fun (r : Int32) (u : OS) => XI u ∧ ((u.1 22) = σ.1 22)) (fun (u : OS) => xB D (xT y) (va_A (xwd y ad iv pv tv kt σ) sz) (xwd y ad iv pv tv kt u)) (va_A (xwd y ad iv pv tv kt σ) sz)) 0 0 (va_A (xwd y ad iv pv tv kt σ) sz) := by
  refine x_meti (cc := cX11_has) (maxL := 2) (by decide) rfl (Nat.le_of_ble_eq_true rfl) ?_
  intro p e s m below meth c A H locs Q hx hb hml hown hts hr hlocks hmn hA hP hK hD hS ls hl hQ
  have hl : lv_has ls 2 [(0, .ref (ad 0)), (1, .int q)] := hl
  have fl71 := hts (.fieldLink RX11 71 "SlopeRunner" "current" "LSlopeRunner$Program;") (List.mem_of_getElem? (i := 1) rfl)
  have inX11 : ∀ w ∈ wsX110, w ∈ v_x_m_has := (fun w h => List.mem_cons_of_mem _ (List.mem_append_right _ (List.mem_append_left _ h)))
  have fl97 := hts (.fieldLink RX11 97 "SlopeRunner$Program" "inputs" "I") (List.mem_of_getElem? (i := 2) rfl)
  have inX6 : ∀ w ∈ wsX60, w ∈ v_x_m_has := (fun w h => List.mem_cons_of_mem _ (List.mem_append_right _ (List.mem_append_right _ h)))
  have fl116 := hts (.fieldLink RX11 116 "SlopeRunner$Program" "rows" "I") (List.mem_of_getElem? (i := 3) rfl)
  have fl119 := hts (.fieldLink RX11 119 "SlopeRunner$Program" "vars" "I") (List.mem_of_getElem? (i := 4) rfl)
  have fl107 := hts (.fieldLink RX11 107 "SlopeRunner$Program" "statements" "I") (List.mem_of_getElem? (i := 5) rfl)
  have fl122 := hts (.fieldLink RX11 122 "SlopeRunner$Program" "numbers" "I") (List.mem_of_getElem? (i := 6) rfl)
  have kk_m1 : ((-1) : Int32).toInt = -1 := rfl
  obtain ⟨hxi0, hxi1, hxi2, hxi3, hxi4, hxi5, hxi6, hxi7, hxi8, hxi9, hxi10, hxi11, hxi12, hxi13, hxi14, hxi15, hxi16, hxi17, hxi18, hxi19, hxi20, hxi21, hxi22, hxi23, hxb102, hxb133, hxb134, hxb135, hxb153, hxb154, hxb155⟩ := hxi
  refine lv_iload_n hx hb dX11_has_0 rfl (lv_at hl 1 rfl) ?_
  rcases (show q = 0 ∨ q = 1 ∨ q = 2 ∨ q = 3 ∨ q = 4 ∨ (q.toInt < 0 ∨ 4 < q.toInt) by simp only [x_eq, Int32.reduceToInt]; omega) with rfl | rfl | rfl | rfl | rfl | g_1
  · refine lv_tableIn (tgt := 36) hx hb dX11_has_1 (by decide) (by decide) rfl (by decide) ?_
    refine lv_aload_n hx hb dX11_has_36 rfl (lv_at hl 0 rfl) ?_
    refine va_get (D := D) (ci := 10) (v := .ref (ad 80)) (C := RX11) (T := TX11) (N := 11) hx hb hts inX11 hown hK hP 0 xwd_o0 rfl 9 (by decide) fl71 (fun _ h9 => h9) rfl dX11_has_37 ?_
    refine va_get (D := D) (ci := 5) (v := .int (σ.1 81)) (C := RX6) (T := TX6) (N := 13) hx hb hts inX6 hown hK hP 5 xwd_o5 rfl 0 (by decide) fl97 (fun _ h9 => h9) rfl dX11_has_40 ?_
    exact x_iretW (v := (σ.1 81)) (u := σ) hx hb hr hQ ⟨(show 0 ≤ ((σ.1 22)).toInt ∧ ((σ.1 22)).toInt ≤ 700 ∧ 0 ≤ ((σ.1 81)).toInt ∧ ((σ.1 81)).toInt ≤ 8 ∧ 0 ≤ ((σ.1 82)).toInt ∧ ((σ.1 82)).toInt ≤ 4 ∧ 0 ≤ ((σ.1 85)).toInt ∧ ((σ.1 85)).toInt ≤ 350 ∧ 0 ≤ ((σ.1 86)).toInt ∧ ((σ.1 86)).toInt ≤ 700 ∧ 0 ≤ ((σ.1 105)).toInt ∧ ((σ.1 105)).toInt ≤ 8 ∧ 0 ≤ ((σ.1 137)).toInt ∧ ((σ.1 137)).toInt ≤ 8 ∧ 0 ≤ ((σ.1 139)).toInt ∧ ((σ.1 139)).toInt ≤ 1359 ∧ 0 ≤ ((σ.1 141)).toInt ∧ ((σ.1 141)).toInt ≤ 12 ∧ 0 ≤ ((σ.1 183)).toInt ∧ ((σ.1 183)).toInt ≤ 8 ∧ 0 ≤ ((σ.1 138)).toInt ∧ 0 ≤ ((σ.1 106)).toInt ∧ ((σ.1 106)).toInt ≤ ((σ.1 107)).toInt ∧ ((σ.1 107)).toInt ≤ 40 ∧ bI ((σ.2.2.1 102)) 0 7 ∧ bI ((σ.2.2.1 133)) 0 1358 ∧ bI ((σ.2.2.1 134)) 0 1358 ∧ bI ((σ.2.2.1 135)) 0 1358 ∧ bI ((σ.2.2.1 153)) 0 1358 ∧ bI ((σ.2.2.1 154)) 0 1358 ∧ bI ((σ.2.2.1 155)) 0 1358 from ⟨by omega, by omega, by omega, by omega, by omega, by omega, by omega, by omega, by omega, by omega, by omega, by omega, by omega, by omega, by omega, by omega, by omega, by omega, by omega, by omega, by omega, by omega, by omega, by omega, hxb102, hxb133, hxb134, hxb135, hxb153, hxb154, hxb155⟩), rfl⟩ hP hD hK hS dX11_has_43 hlocks
  · refine lv_tableIn (tgt := 44) hx hb dX11_has_1 (by decide) (by decide) rfl (by decide) ?_
    refine lv_aload_n hx hb dX11_has_44 rfl (lv_at hl 0 rfl) ?_
    refine va_get (D := D) (ci := 10) (v := .ref (ad 80)) (C := RX11) (T := TX11) (N := 11) hx hb hts inX11 hown hK hP 0 xwd_o0 rfl 9 (by decide) fl71 (fun _ h9 => h9) rfl dX11_has_45 ?_
    refine va_get (D := D) (ci := 5) (v := .int (σ.1 82)) (C := RX6) (T := TX6) (N := 13) hx hb hts inX6 hown hK hP 5 xwd_o5 rfl 1 (by decide) fl116 (fun _ h9 => h9) rfl dX11_has_48 ?_
    exact x_iretW (v := (σ.1 82)) (u := σ) hx hb hr hQ ⟨(show 0 ≤ ((σ.1 22)).toInt ∧ ((σ.1 22)).toInt ≤ 700 ∧ 0 ≤ ((σ.1 81)).toInt ∧ ((σ.1 81)).toInt ≤ 8 ∧ 0 ≤ ((σ.1 82)).toInt ∧ ((σ.1 82)).toInt ≤ 4 ∧ 0 ≤ ((σ.1 85)).toInt ∧ ((σ.1 85)).toInt ≤ 350 ∧ 0 ≤ ((σ.1 86)).toInt ∧ ((σ.1 86)).toInt ≤ 700 ∧ 0 ≤ ((σ.1 105)).toInt ∧ ((σ.1 105)).toInt ≤ 8 ∧ 0 ≤ ((σ.1 137)).toInt ∧ ((σ.1 137)).toInt ≤ 8 ∧ 0 ≤ ((σ.1 139)).toInt ∧ ((σ.1 139)).toInt ≤ 1359 ∧ 0 ≤ ((σ.1 141)).toInt ∧ ((σ.1 141)).toInt ≤ 12 ∧ 0 ≤ ((σ.1 183)).toInt ∧ ((σ.1 183)).toInt ≤ 8 ∧ 0 ≤ ((σ.1 138)).toInt ∧ 0 ≤ ((σ.1 106)).toInt ∧ ((σ.1 106)).toInt ≤ ((σ.1 107)).toInt ∧ ((σ.1 107)).toInt ≤ 40 ∧ bI ((σ.2.2.1 102)) 0 7 ∧ bI ((σ.2.2.1 133)) 0 1358 ∧ bI ((σ.2.2.1 134)) 0 1358 ∧ bI ((σ.2.2.1 135)) 0 1358 ∧ bI ((σ.2.2.1 153)) 0 1358 ∧ bI ((σ.2.2.1 154)) 0 1358 ∧ bI ((σ.2.2.1 155)) 0 1358 from ⟨by omega, by omega, by omega, by omega, by omega, by omega, by omega, by omega, by omega, by omega, by omega, by omega, by omega, by omega, by omega, by omega, by omega, by omega, by omega, by omega, by omega, by omega, by omega, by omega, hxb102, hxb133, hxb134, hxb135, hxb153, hxb154, hxb155⟩), rfl⟩ hP hD hK hS dX11_has_51 hlocks
  · refine lv_tableIn (tgt := 52) hx hb dX11_has_1 (by decide) (by decide) rfl (by decide) ?_
    refine lv_aload_n hx hb dX11_has_52 rfl (lv_at hl 0 rfl) ?_
    refine va_get (D := D) (ci := 10) (v := .ref (ad 80)) (C := RX11) (T := TX11) (N := 11) hx hb hts inX11 hown hK hP 0 xwd_o0 rfl 9 (by decide) fl71 (fun _ h9 => h9) rfl dX11_has_53 ?_
    refine va_get (D := D) (ci := 5) (v := .int (σ.1 83)) (C := RX6) (T := TX6) (N := 13) hx hb hts inX6 hown hK hP 5 xwd_o5 rfl 2 (by decide) fl119 (fun _ h9 => h9) rfl dX11_has_56 ?_
    exact x_iretW (v := (σ.1 83)) (u := σ) hx hb hr hQ ⟨(show 0 ≤ ((σ.1 22)).toInt ∧ ((σ.1 22)).toInt ≤ 700 ∧ 0 ≤ ((σ.1 81)).toInt ∧ ((σ.1 81)).toInt ≤ 8 ∧ 0 ≤ ((σ.1 82)).toInt ∧ ((σ.1 82)).toInt ≤ 4 ∧ 0 ≤ ((σ.1 85)).toInt ∧ ((σ.1 85)).toInt ≤ 350 ∧ 0 ≤ ((σ.1 86)).toInt ∧ ((σ.1 86)).toInt ≤ 700 ∧ 0 ≤ ((σ.1 105)).toInt ∧ ((σ.1 105)).toInt ≤ 8 ∧ 0 ≤ ((σ.1 137)).toInt ∧ ((σ.1 137)).toInt ≤ 8 ∧ 0 ≤ ((σ.1 139)).toInt ∧ ((σ.1 139)).toInt ≤ 1359 ∧ 0 ≤ ((σ.1 141)).toInt ∧ ((σ.1 141)).toInt ≤ 12 ∧ 0 ≤ ((σ.1 183)).toInt ∧ ((σ.1 183)).toInt ≤ 8 ∧ 0 ≤ ((σ.1 138)).toInt ∧ 0 ≤ ((σ.1 106)).toInt ∧ ((σ.1 106)).toInt ≤ ((σ.1 107)).toInt ∧ ((σ.1 107)).toInt ≤ 40 ∧ bI ((σ.2.2.1 102)) 0 7 ∧ bI ((σ.2.2.1 133)) 0 1358 ∧ bI ((σ.2.2.1 134)) 0 1358 ∧ bI ((σ.2.2.1 135)) 0 1358 ∧ bI ((σ.2.2.1 153)) 0 1358 ∧ bI ((σ.2.2.1 154)) 0 1358 ∧ bI ((σ.2.2.1 155)) 0 1358 from ⟨by omega, by omega, by omega, by omega, by omega, by omega, by omega, by omega, by omega, by omega, by omega, by omega, by omega, by omega, by omega, by omega, by omega, by omega, by omega, by omega, by omega, by omega, by omega, by omega, hxb102, hxb133, hxb134, hxb135, hxb153, hxb154, hxb155⟩), rfl⟩ hP hD hK hS dX11_has_59 hlocks
  · refine lv_tableIn (tgt := 60) hx hb dX11_has_1 (by decide) (by decide) rfl (by decide) ?_
    refine lv_aload_n hx hb dX11_has_60 rfl (lv_at hl 0 rfl) ?_
    refine va_get (D := D) (ci := 10) (v := .ref (ad 80)) (C := RX11) (T := TX11) (N := 11) hx hb hts inX11 hown hK hP 0 xwd_o0 rfl 9 (by decide) fl71 (fun _ h9 => h9) rfl dX11_has_61 ?_
    refine va_get (D := D) (ci := 5) (v := .int (σ.1 84)) (C := RX6) (T := TX6) (N := 13) hx hb hts inX6 hown hK hP 5 xwd_o5 rfl 3 (by decide) fl107 (fun _ h9 => h9) rfl dX11_has_64 ?_
    exact x_iretW (v := (σ.1 84)) (u := σ) hx hb hr hQ ⟨(show 0 ≤ ((σ.1 22)).toInt ∧ ((σ.1 22)).toInt ≤ 700 ∧ 0 ≤ ((σ.1 81)).toInt ∧ ((σ.1 81)).toInt ≤ 8 ∧ 0 ≤ ((σ.1 82)).toInt ∧ ((σ.1 82)).toInt ≤ 4 ∧ 0 ≤ ((σ.1 85)).toInt ∧ ((σ.1 85)).toInt ≤ 350 ∧ 0 ≤ ((σ.1 86)).toInt ∧ ((σ.1 86)).toInt ≤ 700 ∧ 0 ≤ ((σ.1 105)).toInt ∧ ((σ.1 105)).toInt ≤ 8 ∧ 0 ≤ ((σ.1 137)).toInt ∧ ((σ.1 137)).toInt ≤ 8 ∧ 0 ≤ ((σ.1 139)).toInt ∧ ((σ.1 139)).toInt ≤ 1359 ∧ 0 ≤ ((σ.1 141)).toInt ∧ ((σ.1 141)).toInt ≤ 12 ∧ 0 ≤ ((σ.1 183)).toInt ∧ ((σ.1 183)).toInt ≤ 8 ∧ 0 ≤ ((σ.1 138)).toInt ∧ 0 ≤ ((σ.1 106)).toInt ∧ ((σ.1 106)).toInt ≤ ((σ.1 107)).toInt ∧ ((σ.1 107)).toInt ≤ 40 ∧ bI ((σ.2.2.1 102)) 0 7 ∧ bI ((σ.2.2.1 133)) 0 1358 ∧ bI ((σ.2.2.1 134)) 0 1358 ∧ bI ((σ.2.2.1 135)) 0 1358 ∧ bI ((σ.2.2.1 153)) 0 1358 ∧ bI ((σ.2.2.1 154)) 0 1358 ∧ bI ((σ.2.2.1 155)) 0 1358 from ⟨by omega, by omega, by omega, by omega, by omega, by omega, by omega, by omega, by omega, by omega, by omega, by omega, by omega, by omega, by omega, by omega, by omega, by omega, by omega, by omega, by omega, by omega, by omega, by omega, hxb102, hxb133, hxb134, hxb135, hxb153, hxb154, hxb155⟩), rfl⟩ hP hD hK hS dX11_has_67 hlocks
  · refine lv_tableIn (tgt := 68) hx hb dX11_has_1 (by decide) (by decide) rfl (by decide) ?_
    refine lv_aload_n hx hb dX11_has_68 rfl (lv_at hl 0 rfl) ?_
    refine va_get (D := D) (ci := 10) (v := .ref (ad 80)) (C := RX11) (T := TX11) (N := 11) hx hb hts inX11 hown hK hP 0 xwd_o0 rfl 9 (by decide) fl71 (fun _ h9 => h9) rfl dX11_has_69 ?_
    refine va_get (D := D) (ci := 5) (v := .int (σ.1 85)) (C := RX6) (T := TX6) (N := 13) hx hb hts inX6 hown hK hP 5 xwd_o5 rfl 4 (by decide) fl122 (fun _ h9 => h9) rfl dX11_has_72 ?_
    exact x_iretW (v := (σ.1 85)) (u := σ) hx hb hr hQ ⟨(show 0 ≤ ((σ.1 22)).toInt ∧ ((σ.1 22)).toInt ≤ 700 ∧ 0 ≤ ((σ.1 81)).toInt ∧ ((σ.1 81)).toInt ≤ 8 ∧ 0 ≤ ((σ.1 82)).toInt ∧ ((σ.1 82)).toInt ≤ 4 ∧ 0 ≤ ((σ.1 85)).toInt ∧ ((σ.1 85)).toInt ≤ 350 ∧ 0 ≤ ((σ.1 86)).toInt ∧ ((σ.1 86)).toInt ≤ 700 ∧ 0 ≤ ((σ.1 105)).toInt ∧ ((σ.1 105)).toInt ≤ 8 ∧ 0 ≤ ((σ.1 137)).toInt ∧ ((σ.1 137)).toInt ≤ 8 ∧ 0 ≤ ((σ.1 139)).toInt ∧ ((σ.1 139)).toInt ≤ 1359 ∧ 0 ≤ ((σ.1 141)).toInt ∧ ((σ.1 141)).toInt ≤ 12 ∧ 0 ≤ ((σ.1 183)).toInt ∧ ((σ.1 183)).toInt ≤ 8 ∧ 0 ≤ ((σ.1 138)).toInt ∧ 0 ≤ ((σ.1 106)).toInt ∧ ((σ.1 106)).toInt ≤ ((σ.1 107)).toInt ∧ ((σ.1 107)).toInt ≤ 40 ∧ bI ((σ.2.2.1 102)) 0 7 ∧ bI ((σ.2.2.1 133)) 0 1358 ∧ bI ((σ.2.2.1 134)) 0 1358 ∧ bI ((σ.2.2.1 135)) 0 1358 ∧ bI ((σ.2.2.1 153)) 0 1358 ∧ bI ((σ.2.2.1 154)) 0 1358 ∧ bI ((σ.2.2.1 155)) 0 1358 from ⟨by omega, by omega, by omega, by omega, by omega, by omega, by omega, by omega, by omega, by omega, by omega, by omega, by omega, by omega, by omega, by omega, by omega, by omega, by omega, by omega, by omega, by omega, by omega, by omega, hxb102, hxb133, hxb134, hxb135, hxb153, hxb154, hxb155⟩), rfl⟩ hP hD hK hS dX11_has_75 hlocks
  · refine lv_tableOut (tgt := 76) hx hb dX11_has_1 g_1 (by decide) ?_
    refine lv_iconst (v := (-1)) hx hb dX11_has_76 (by decide) ?_
    exact x_iretW (v := (-1)) (u := σ) hx hb hr hQ ⟨(show 0 ≤ ((σ.1 22)).toInt ∧ ((σ.1 22)).toInt ≤ 700 ∧ 0 ≤ ((σ.1 81)).toInt ∧ ((σ.1 81)).toInt ≤ 8 ∧ 0 ≤ ((σ.1 82)).toInt ∧ ((σ.1 82)).toInt ≤ 4 ∧ 0 ≤ ((σ.1 85)).toInt ∧ ((σ.1 85)).toInt ≤ 350 ∧ 0 ≤ ((σ.1 86)).toInt ∧ ((σ.1 86)).toInt ≤ 700 ∧ 0 ≤ ((σ.1 105)).toInt ∧ ((σ.1 105)).toInt ≤ 8 ∧ 0 ≤ ((σ.1 137)).toInt ∧ ((σ.1 137)).toInt ≤ 8 ∧ 0 ≤ ((σ.1 139)).toInt ∧ ((σ.1 139)).toInt ≤ 1359 ∧ 0 ≤ ((σ.1 141)).toInt ∧ ((σ.1 141)).toInt ≤ 12 ∧ 0 ≤ ((σ.1 183)).toInt ∧ ((σ.1 183)).toInt ≤ 8 ∧ 0 ≤ ((σ.1 138)).toInt ∧ 0 ≤ ((σ.1 106)).toInt ∧ ((σ.1 106)).toInt ≤ ((σ.1 107)).toInt ∧ ((σ.1 107)).toInt ≤ 40 ∧ bI ((σ.2.2.1 102)) 0 7 ∧ bI ((σ.2.2.1 133)) 0 1358 ∧ bI ((σ.2.2.1 134)) 0 1358 ∧ bI ((σ.2.2.1 135)) 0 1358 ∧ bI ((σ.2.2.1 153)) 0 1358 ∧ bI ((σ.2.2.1 154)) 0 1358 ∧ bI ((σ.2.2.1 155)) 0 1358 from ⟨by omega, by omega, by omega, by omega, by omega, by omega, by omega, by omega, by omega, by omega, by omega, by omega, by omega, by omega, by omega, by omega, by omega, by omega, by omega, by omega, by omega, by omega, by omega, by omega, hxb102, hxb133, hxb134, hxb135, hxb153, hxb154, hxb155⟩), rfl⟩ hP hD hK hS dX11_has_77 hlocks

def v_x_m_put : List Cond := .code yX11_put cX11_put 4 (some .boolean) :: ([.fieldLink RX11 26 "SlopeRunner" "inputs" "LSlopeRunner$Inputs;"] ++ ((wsV RX11 125 RX2 yX2_holds v_i_holds) ++ ((va_wsS RX11 128 yX0_canBe v_k_canBe) ++ ((va_wsS RX11 134 yX0_of v_k_of) ++ ((wsV RX11 138 RX2 yX2_change v_i_change) ++ wsX110)))))
theorem g_x_m_put_0 : GoodIn v_x_m_put (wsV RX11 125 RX2 yX2_holds v_i_holds) := goodIn_sub (fun w h => List.mem_cons_of_mem _ (List.mem_append_right _ (List.mem_append_left _ h))) (by decide +kernel)
theorem g_x_m_put_1 : GoodIn v_x_m_put (va_wsS RX11 128 yX0_canBe v_k_canBe) := goodIn_sub (fun w h => List.mem_cons_of_mem _ (List.mem_append_right _ (List.mem_append_right _ (List.mem_append_left _ h)))) (by decide +kernel)
theorem g_x_m_put_2 : GoodIn v_x_m_put (va_wsS RX11 134 yX0_of v_k_of) := goodIn_sub (fun w h => List.mem_cons_of_mem _ (List.mem_append_right _ (List.mem_append_right _ (List.mem_append_right _ (List.mem_append_left _ h))))) (by decide +kernel)
theorem g_x_m_put_3 : GoodIn v_x_m_put (wsV RX11 138 RX2 yX2_change v_i_change) := goodIn_sub (fun w h => List.mem_cons_of_mem _ (List.mem_append_right _ (List.mem_append_right _ (List.mem_append_right _ (List.mem_append_right _ (List.mem_append_left _ h)))))) (by decide +kernel)
set_option maxHeartbeats 4000000 in
set_option maxRecDepth 100000 in
theorem x_m_put (l : Launch) (D : va_G) (y : Nat → ClassId) (sz : Nat) (ad : Nat → Nat) (iv : Value) (pv : Value) (tv : Value) (kt : va_W) (σ : OS) (q a b : Int32) (hxi : XI σ) : Met l yX11_put v_x_m_put ({ frames := 3, cells := 0, slots := 0, locals := 123 } : Room) (va_Pc [.ref (ad 0), .int q, .int a, .int b] (xPre D (xT y) (xwd y ad iv pv tv kt σ) sz)) (va_Qi (fun (r : Int32) (u : OS) => XI u ∧ ((u.1 22) = σ.1 22)) (fun (u : OS) => xB D (xT y) (va_A (xwd y ad iv pv tv kt σ) sz) (xwd y ad iv pv tv kt u)) (va_A (xwd y ad iv pv tv kt σ) sz)) 0 0 (va_A (xwd y ad iv pv tv kt σ) sz) := by
  refine x_meti (cc := cX11_put) (maxL := 4) (by decide) rfl (Nat.le_of_ble_eq_true rfl) ?_
  intro p e s m below meth c A H locs Q hx hb hml hown hts hr hlocks hmn hA hP hK hD hS ls hl hQ
  have hl : lv_has ls 4 [(0, .ref (ad 0)), (1, .int q), (2, .int a), (3, .int b)] := hl
  have fl26 := hts (.fieldLink RX11 26 "SlopeRunner" "inputs" "LSlopeRunner$Inputs;") (List.mem_of_getElem? (i := 1) rfl)
  have inX11 : ∀ w ∈ wsX110, w ∈ v_x_m_put := (fun w h => List.mem_cons_of_mem _ (List.mem_append_right _ (List.mem_append_right _ (List.mem_append_right _ (List.mem_append_right _ (List.mem_append_right _ h))))))
  have kk_0 : (0 : Int32).toInt = 0 := rfl
  have kk_1 : (1 : Int32).toInt = 1 := rfl
  obtain ⟨hxi0, hxi1, hxi2, hxi3, hxi4, hxi5, hxi6, hxi7, hxi8, hxi9, hxi10, hxi11, hxi12, hxi13, hxi14, hxi15, hxi16, hxi17, hxi18, hxi19, hxi20, hxi21, hxi22, hxi23, hxb102, hxb133, hxb134, hxb135, hxb153, hxb154, hxb155⟩ := hxi
  refine lv_aload_n hx hb dX11_put_0 rfl (lv_at hl 0 rfl) ?_
  refine va_get (D := D) (ci := 10) (v := .ref (ad 100)) (C := RX11) (T := TX11) (N := 11) hx hb hts inX11 hown hK hP 0 xwd_o0 rfl 2 (by decide) fl26 (fun _ h9 => h9) rfl dX11_put_1 ?_
  refine lv_iload_n hx hb dX11_put_4 rfl (lv_at hl 1 rfl) ?_
  have hPs : va_P D vwCl (inw y ad σ) H := x_suP hP [6, 29, 30, 31, 32] rfl
  have hDs : va_D A (inw y ad σ) := x_suD hD [6, 29, 30, 31, 32] rfl (by decide)
  refine x_calliT (b1 := fun (u : Unit) => (xwd y ad iv pv tv kt σ)) [6, 29, 30, 31, 32] [none, none, none, none, none, none, some 0, none, none, none, none, none, none, none, none, none, none, none, none, none, none, none, none, none, none, none, none, none, none, some 1, some 2, some 3, some 4, none, none, none, none, none, none, none, none, none, none, none, none, none, none, none, none, none, none, none] 5 (va_runV (As := [.int q]) (rest := []) ⟨hx, hb, hml, hown, hts⟩ (i_holds l D y H.size ad σ q) (cwV 1 hts g_x_m_put_0 rfl rfl rfl (by decide +kernel) ⟨Nat.le_of_ble_eq_true rfl, Nat.le_of_ble_eq_true rfl⟩) (x_preV (q := (RX2, TX2, 7)) hK hPs hDs (ci := 1) (q0 := 0) rfl inw_o0) rfl rfl hl.1 rfl (lv_room (Nat.le_of_ble_eq_true rfl)) dX11_put_5 ⟨Nat.le_of_ble_eq_true rfl, Nat.le_of_ble_eq_true rfl⟩) hP hD hS hA rfl (fun _ => xwd_in_inw (agr_refl _ _)) (fun _ => rfl) (fun _ => rfl) rfl (fun r_1 u H locs hw hP hD hS => ?_)
  try dsimp only at hw
  have hP : va_P D vwCl (xwd y ad iv pv tv kt σ) H := hP
  have hD : va_D A (xwd y ad iv pv tv kt σ) := hD
  replace hw : (r_1.toInt = 1 ∧ 0 ≤ q.toInt ∧ q.toInt < ((σ.1 105)).toInt) ∨ r_1.toInt = 0 := hw
  refine lv_if_eq (tgt := 19) hx hb dX11_put_8 (by decide) (fun c_2 => ?_) (fun c_2 => ?_)
  · have kc_2 : r_1.toInt = 0 := by have h9 := c_2; simp only [ge_iff_le, gt_iff_lt, x_lt, x_le, x_eq, ne_eq, Int32.not_lt, Int32.not_le] at h9; simp only [Int32.reduceToInt] at h9; omega
    refine lv_iconst (v := 0) hx hb dX11_put_19 (by decide) ?_
    exact x_zretW (v := 0) (u := σ) hx hb hr hQ rfl ⟨(show 0 ≤ ((σ.1 22)).toInt ∧ ((σ.1 22)).toInt ≤ 700 ∧ 0 ≤ ((σ.1 81)).toInt ∧ ((σ.1 81)).toInt ≤ 8 ∧ 0 ≤ ((σ.1 82)).toInt ∧ ((σ.1 82)).toInt ≤ 4 ∧ 0 ≤ ((σ.1 85)).toInt ∧ ((σ.1 85)).toInt ≤ 350 ∧ 0 ≤ ((σ.1 86)).toInt ∧ ((σ.1 86)).toInt ≤ 700 ∧ 0 ≤ ((σ.1 105)).toInt ∧ ((σ.1 105)).toInt ≤ 8 ∧ 0 ≤ ((σ.1 137)).toInt ∧ ((σ.1 137)).toInt ≤ 8 ∧ 0 ≤ ((σ.1 139)).toInt ∧ ((σ.1 139)).toInt ≤ 1359 ∧ 0 ≤ ((σ.1 141)).toInt ∧ ((σ.1 141)).toInt ≤ 12 ∧ 0 ≤ ((σ.1 183)).toInt ∧ ((σ.1 183)).toInt ≤ 8 ∧ 0 ≤ ((σ.1 138)).toInt ∧ 0 ≤ ((σ.1 106)).toInt ∧ ((σ.1 106)).toInt ≤ ((σ.1 107)).toInt ∧ ((σ.1 107)).toInt ≤ 40 ∧ bI ((σ.2.2.1 102)) 0 7 ∧ bI ((σ.2.2.1 133)) 0 1358 ∧ bI ((σ.2.2.1 134)) 0 1358 ∧ bI ((σ.2.2.1 135)) 0 1358 ∧ bI ((σ.2.2.1 153)) 0 1358 ∧ bI ((σ.2.2.1 154)) 0 1358 ∧ bI ((σ.2.2.1 155)) 0 1358 from ⟨by omega, by omega, by omega, by omega, by omega, by omega, by omega, by omega, by omega, by omega, by omega, by omega, by omega, by omega, by omega, by omega, by omega, by omega, by omega, by omega, by omega, by omega, by omega, by omega, hxb102, hxb133, hxb134, hxb135, hxb153, hxb154, hxb155⟩), rfl⟩ hP hD hK hS dX11_put_20 hlocks
  · have kc_2 : r_1.toInt ≠ 0 := by have h9 := c_2; simp only [ge_iff_le, gt_iff_lt, x_lt, x_le, x_eq, ne_eq, Int32.not_lt, Int32.not_le] at h9; simp only [Int32.reduceToInt] at h9; omega
    refine lv_iload_n hx hb dX11_put_11 rfl (lv_at hl 2 rfl) ?_
    refine lv_iload_n hx hb dX11_put_12 rfl (lv_at hl 3 rfl) ?_
    refine x_calliN (va_runS (As := [.int a, .int b]) (rest := []) ⟨hx, hb, hml, hown, hts⟩ (k_canBe l D y H.size a b) (va_cwS 2 hts g_x_m_put_1 rfl rfl rfl (by decide +kernel) ⟨Nat.le_of_ble_eq_true rfl, Nat.le_of_ble_eq_true rfl⟩) (x_preS hK (x_nilP D H) (x_nilD A)) rfl rfl hl.1 rfl (lv_room (Nat.le_of_ble_eq_true rfl)) dX11_put_13 ⟨Nat.le_of_ble_eq_true rfl, Nat.le_of_ble_eq_true rfl⟩) hP hD hS hA (fun r_3 u H locs hw hP hD hS => ?_)
    try dsimp only at hw
    refine lv_if_ne (tgt := 21) hx hb dX11_put_16 (by decide) (fun c_4 => ?_) (fun c_4 => ?_)
    · have kc_4 : r_3.toInt ≠ 0 := by have h9 := c_4; simp only [ge_iff_le, gt_iff_lt, x_lt, x_le, x_eq, ne_eq, Int32.not_lt, Int32.not_le] at h9; simp only [Int32.reduceToInt] at h9; omega
      refine lv_aload_n hx hb dX11_put_21 rfl (lv_at hl 0 rfl) ?_
      refine va_get (D := D) (ci := 10) (v := .ref (ad 100)) (C := RX11) (T := TX11) (N := 11) hx hb hts inX11 hown hK hP 0 xwd_o0 rfl 2 (by decide) fl26 (fun _ h9 => h9) rfl dX11_put_22 ?_
      refine lv_iload_n hx hb dX11_put_25 rfl (lv_at hl 1 rfl) ?_
      refine lv_iload_n hx hb dX11_put_26 rfl (lv_at hl 2 rfl) ?_
      refine lv_i2l hx hb dX11_put_27 rfl ?_
      refine lv_topl (fun j_5 ej_5 => ?_)
      have vj_5 : j_5.toInt = a.toInt := by rw [ej_5]; exact Int32.toInt_toInt64 _
      refine lv_iload_n hx hb dX11_put_28 rfl (lv_at hl 3 rfl) ?_
      refine lv_i2l hx hb dX11_put_29 rfl ?_
      refine lv_topl (fun j_6 ej_6 => ?_)
      have vj_6 : j_6.toInt = b.toInt := by rw [ej_6]; exact Int32.toInt_toInt64 _
      refine x_calllN (va_runS (As := [.long j_5, .long j_6]) (rest := [.int q, .ref (ad 100)]) ⟨hx, hb, hml, hown, hts⟩ (k_of l D y H.size j_5 j_6) (va_cwS 2 hts g_x_m_put_2 rfl rfl rfl (by decide +kernel) ⟨Nat.le_of_ble_eq_true rfl, Nat.le_of_ble_eq_true rfl⟩) (x_preS hK (x_nilP D H) (x_nilD A)) rfl rfl hl.1 rfl (lv_room (Nat.le_of_ble_eq_true rfl)) dX11_put_30 ⟨Nat.le_of_ble_eq_true rfl, Nat.le_of_ble_eq_true rfl⟩) hP hD hS hA (fun r_7 u H locs hw hP hD hS => ?_)
      try dsimp only at hw
      have hPs : va_P D vwCl (inw y ad σ) H := x_suP hP [6, 29, 30, 31, 32] rfl
      have hDs : va_D A (inw y ad σ) := x_suD hD [6, 29, 30, 31, 32] rfl (by decide)
      refine x_callvT (b1 := fun (u : Int32 × Int32 × (Nat → Int32) × (Nat → Int64) × (Nat → Int64) × (Nat → Int64)) => (xwd y ad iv pv tv kt (tJ (tJ (tJ (tI (sI (sI σ 106 u.1) 107 u.2.1) 102 u.2.2.1) 103 u.2.2.2.1) 104 u.2.2.2.2.1) 101 u.2.2.2.2.2))) [6, 29, 30, 31, 32] [none, none, none, none, none, none, some 0, none, none, none, none, none, none, none, none, none, none, none, none, none, none, none, none, none, none, none, none, none, none, some 1, some 2, some 3, some 4, none, none, none, none, none, none, none, none, none, none, none, none, none, none, none, none, none, none, none] 5 (va_runV (As := [.int q, .long r_7]) (rest := []) ⟨hx, hb, hml, hown, hts⟩ (i_change l D y H.size ad σ q r_7 (show 0 ≤ ((σ.1 105)).toInt from by first | omega | decide) (show ((σ.1 105)).toInt ≤ 8 from by first | omega | decide) (show 0 ≤ ((σ.1 106)).toInt from by first | omega | decide) (show ((σ.1 106)).toInt ≤ ((σ.1 107)).toInt from by first | omega | decide) (show ((σ.1 107)).toInt ≤ 40 from by first | omega | decide) hxb102) (cwV 2 hts g_x_m_put_3 rfl rfl rfl (by decide +kernel) ⟨Nat.le_of_ble_eq_true rfl, Nat.le_of_ble_eq_true rfl⟩) (x_preV (q := (RX2, TX2, 7)) hK hPs hDs (ci := 1) (q0 := 0) rfl inw_o0) rfl rfl hl.1 rfl (lv_room (Nat.le_of_ble_eq_true rfl)) dX11_put_33 ⟨Nat.le_of_ble_eq_true rfl, Nat.le_of_ble_eq_true rfl⟩) hP hD hS hA rfl (fun _ => xwd_in_inw (agr_tJ (agr_tJ (agr_tJ (agr_tI (agr_sI (agr_sI (agr_refl _ _) rfl) rfl) rfl) rfl) rfl) rfl)) (fun _ => rfl) (fun _ => rfl) rfl (fun u H locs hw hP hD hS => ?_)
      obtain ⟨n_8, n_9, f_10, f_11, f_12, f_13⟩ := u
      try dsimp only at hw
      have hP : va_P D vwCl (xwd y ad iv pv tv kt (tJ (tJ (tJ (tI (sI (sI σ 106 n_8) 107 n_9) 102 f_10) 103 f_11) 104 f_12) 101 f_13)) H := hP
      have hD : va_D A (xwd y ad iv pv tv kt (tJ (tJ (tJ (tI (sI (sI σ 106 n_8) 107 n_9) 102 f_10) 103 f_11) 104 f_12) 101 f_13)) := hD
      replace hw : (0 ≤ n_8.toInt ∧ n_8.toInt ≤ n_9.toInt ∧ n_9.toInt ≤ 40) ∧ bI f_10 0 7 := hw
      obtain ⟨hw, hg_14⟩ := hw
      obtain ⟨t_15, et_15⟩ : ∃ z9 : OS, z9 = (tJ (tJ (tJ (tI (sI (sI σ 106 n_8) 107 n_9) 102 f_10) 103 f_11) 104 f_12) 101 f_13) := ⟨_, rfl⟩
      rw [← et_15] at hP hD
      have qt_15_22 : (t_15.1 22).toInt = (σ.1 22).toInt := by rw [et_15]; rfl
      have qt_15_81 : (t_15.1 81).toInt = (σ.1 81).toInt := by rw [et_15]; rfl
      have qt_15_82 : (t_15.1 82).toInt = (σ.1 82).toInt := by rw [et_15]; rfl
      have qt_15_85 : (t_15.1 85).toInt = (σ.1 85).toInt := by rw [et_15]; rfl
      have qt_15_86 : (t_15.1 86).toInt = (σ.1 86).toInt := by rw [et_15]; rfl
      have qt_15_105 : (t_15.1 105).toInt = (σ.1 105).toInt := by rw [et_15]; rfl
      have qt_15_137 : (t_15.1 137).toInt = (σ.1 137).toInt := by rw [et_15]; rfl
      have qt_15_139 : (t_15.1 139).toInt = (σ.1 139).toInt := by rw [et_15]; rfl
      have qt_15_141 : (t_15.1 141).toInt = (σ.1 141).toInt := by rw [et_15]; rfl
      have qt_15_183 : (t_15.1 183).toInt = (σ.1 183).toInt := by rw [et_15]; rfl
      have qt_15_138 : (t_15.1 138).toInt = (σ.1 138).toInt := by rw [et_15]; rfl
      have qt_15_106 : (t_15.1 106).toInt = n_8.toInt := by rw [et_15]; rfl
      have qt_15_107 : (t_15.1 107).toInt = n_9.toInt := by rw [et_15]; rfl
      have bt_15_102 : bI (t_15.2.2.1 102) 0 7 := by rw [et_15]; exact hg_14
      have bt_15_133 : bI (t_15.2.2.1 133) 0 1358 := by rw [et_15]; exact hxb133
      have bt_15_134 : bI (t_15.2.2.1 134) 0 1358 := by rw [et_15]; exact hxb134
      have bt_15_135 : bI (t_15.2.2.1 135) 0 1358 := by rw [et_15]; exact hxb135
      have bt_15_153 : bI (t_15.2.2.1 153) 0 1358 := by rw [et_15]; exact hxb153
      have bt_15_154 : bI (t_15.2.2.1 154) 0 1358 := by rw [et_15]; exact hxb154
      have bt_15_155 : bI (t_15.2.2.1 155) 0 1358 := by rw [et_15]; exact hxb155
      have hP : va_P D vwCl (xwd y ad iv pv tv kt t_15) H := hP
      have hD : va_D A (xwd y ad iv pv tv kt t_15) := hD
      refine lv_iconst (v := 1) hx hb dX11_put_36 (by decide) ?_
      exact x_zretW (v := 1) (u := t_15) hx hb hr hQ rfl ⟨(show 0 ≤ ((t_15.1 22)).toInt ∧ ((t_15.1 22)).toInt ≤ 700 ∧ 0 ≤ ((t_15.1 81)).toInt ∧ ((t_15.1 81)).toInt ≤ 8 ∧ 0 ≤ ((t_15.1 82)).toInt ∧ ((t_15.1 82)).toInt ≤ 4 ∧ 0 ≤ ((t_15.1 85)).toInt ∧ ((t_15.1 85)).toInt ≤ 350 ∧ 0 ≤ ((t_15.1 86)).toInt ∧ ((t_15.1 86)).toInt ≤ 700 ∧ 0 ≤ ((t_15.1 105)).toInt ∧ ((t_15.1 105)).toInt ≤ 8 ∧ 0 ≤ ((t_15.1 137)).toInt ∧ ((t_15.1 137)).toInt ≤ 8 ∧ 0 ≤ ((t_15.1 139)).toInt ∧ ((t_15.1 139)).toInt ≤ 1359 ∧ 0 ≤ ((t_15.1 141)).toInt ∧ ((t_15.1 141)).toInt ≤ 12 ∧ 0 ≤ ((t_15.1 183)).toInt ∧ ((t_15.1 183)).toInt ≤ 8 ∧ 0 ≤ ((t_15.1 138)).toInt ∧ 0 ≤ ((t_15.1 106)).toInt ∧ ((t_15.1 106)).toInt ≤ ((t_15.1 107)).toInt ∧ ((t_15.1 107)).toInt ≤ 40 ∧ bI ((t_15.2.2.1 102)) 0 7 ∧ bI ((t_15.2.2.1 133)) 0 1358 ∧ bI ((t_15.2.2.1 134)) 0 1358 ∧ bI ((t_15.2.2.1 135)) 0 1358 ∧ bI ((t_15.2.2.1 153)) 0 1358 ∧ bI ((t_15.2.2.1 154)) 0 1358 ∧ bI ((t_15.2.2.1 155)) 0 1358 from ⟨by omega, by omega, by omega, by omega, by omega, by omega, by omega, by omega, by omega, by omega, by omega, by omega, by omega, by omega, by omega, by omega, by omega, by omega, by omega, by omega, by omega, by omega, by omega, by omega, bt_15_102, bt_15_133, bt_15_134, bt_15_135, bt_15_153, bt_15_154, bt_15_155⟩), (Int32.toInt_inj.mp (by omega))⟩ hP hD hK hS dX11_put_37 hlocks
    · have kc_4 : r_3.toInt = 0 := by have h9 := c_4; simp only [ge_iff_le, gt_iff_lt, x_lt, x_le, x_eq, ne_eq, Int32.not_lt, Int32.not_le] at h9; simp only [Int32.reduceToInt] at h9; omega
      refine lv_iconst (v := 0) hx hb dX11_put_19 (by decide) ?_
      exact x_zretW (v := 0) (u := σ) hx hb hr hQ rfl ⟨(show 0 ≤ ((σ.1 22)).toInt ∧ ((σ.1 22)).toInt ≤ 700 ∧ 0 ≤ ((σ.1 81)).toInt ∧ ((σ.1 81)).toInt ≤ 8 ∧ 0 ≤ ((σ.1 82)).toInt ∧ ((σ.1 82)).toInt ≤ 4 ∧ 0 ≤ ((σ.1 85)).toInt ∧ ((σ.1 85)).toInt ≤ 350 ∧ 0 ≤ ((σ.1 86)).toInt ∧ ((σ.1 86)).toInt ≤ 700 ∧ 0 ≤ ((σ.1 105)).toInt ∧ ((σ.1 105)).toInt ≤ 8 ∧ 0 ≤ ((σ.1 137)).toInt ∧ ((σ.1 137)).toInt ≤ 8 ∧ 0 ≤ ((σ.1 139)).toInt ∧ ((σ.1 139)).toInt ≤ 1359 ∧ 0 ≤ ((σ.1 141)).toInt ∧ ((σ.1 141)).toInt ≤ 12 ∧ 0 ≤ ((σ.1 183)).toInt ∧ ((σ.1 183)).toInt ≤ 8 ∧ 0 ≤ ((σ.1 138)).toInt ∧ 0 ≤ ((σ.1 106)).toInt ∧ ((σ.1 106)).toInt ≤ ((σ.1 107)).toInt ∧ ((σ.1 107)).toInt ≤ 40 ∧ bI ((σ.2.2.1 102)) 0 7 ∧ bI ((σ.2.2.1 133)) 0 1358 ∧ bI ((σ.2.2.1 134)) 0 1358 ∧ bI ((σ.2.2.1 135)) 0 1358 ∧ bI ((σ.2.2.1 153)) 0 1358 ∧ bI ((σ.2.2.1 154)) 0 1358 ∧ bI ((σ.2.2.1 155)) 0 1358 from ⟨by omega, by omega, by omega, by omega, by omega, by omega, by omega, by omega, by omega, by omega, by omega, by omega, by omega, by omega, by omega, by omega, by omega, by omega, by omega, by omega, by omega, by omega, by omega, by omega, hxb102, hxb133, hxb134, hxb135, hxb153, hxb154, hxb155⟩), rfl⟩ hP hD hK hS dX11_put_20 hlocks

def v_i_stepBack2 : List Cond := .code yX2_stepBack cX2_stepBack 1 (some .boolean) :: ([.fieldLink RX2 29 "SlopeRunner$Inputs" "done" "I", .fieldLink RX2 9 "SlopeRunner$Inputs" "value" "[J", .fieldLink RX2 15 "SlopeRunner$Inputs" "changed" "[I", .fieldLink RX2 19 "SlopeRunner$Inputs" "before" "[J"] ++ wsX20)
set_option maxHeartbeats 4000000 in
set_option maxRecDepth 100000 in
theorem i_stepBack2 (l : Launch) (D : va_G) (y : Nat → ClassId) (sz : Nat) (ad : Nat → Nat) (σ : OS) (hdn0 : 0 ≤ (σ.1 106).toInt) (hdn1 : (σ.1 106).toInt ≤ (σ.1 107).toInt) (hkn : (σ.1 107).toInt ≤ 40)  (hB102 : bI (σ.2.2.1 102) 0 7) : Met l yX2_stepBack v_i_stepBack2 ({ frames := 0, cells := 0, slots := 0, locals := 0 } : Room) (va_Pc [.ref (ad 100)] (xPre D (xT y) (inw y ad σ) sz)) (va_Qi (fun (r : Int32) (u : Int32 × (Nat → Int64)) => 0 ≤ u.1.toInt ∧ u.1.toInt ≤ (σ.1 107).toInt ∧ (r.toInt = 0 ∨ r.toInt = 1)) (fun (u : Int32 × (Nat → Int64)) => xB D (xT y) (va_A (inw y ad σ) sz) (inw y ad (tJ (sI σ 106 u.1) 101 u.2))) (va_A (inw y ad σ) sz)) 0 0 (va_A (inw y ad σ) sz) := by
  refine x_meti (cc := cX2_stepBack) (maxL := 1) (by decide) rfl (Nat.le_of_ble_eq_true rfl) ?_
  intro p e s m below meth c A H locs Q hx hb hml hown hts hr hlocks hmn hA hP hK hD hS ls hl hQ
  have hl : lv_has ls 1 [(0, .ref (ad 100))] := hl
  have fl29 := hts (.fieldLink RX2 29 "SlopeRunner$Inputs" "done" "I") (List.mem_of_getElem? (i := 1) rfl)
  have inX2 : ∀ w ∈ wsX20, w ∈ v_i_stepBack2 := (fun w h => List.mem_cons_of_mem _ (List.mem_append_right _ h))
  have kk_0 : (0 : Int32).toInt = 0 := rfl
  have kk_1 : (1 : Int32).toInt = 1 := rfl
  have fl9 := hts (.fieldLink RX2 9 "SlopeRunner$Inputs" "value" "[J") (List.mem_of_getElem? (i := 2) rfl)
  have fl15 := hts (.fieldLink RX2 15 "SlopeRunner$Inputs" "changed" "[I") (List.mem_of_getElem? (i := 3) rfl)
  have fl19 := hts (.fieldLink RX2 19 "SlopeRunner$Inputs" "before" "[J") (List.mem_of_getElem? (i := 4) rfl)
  refine lv_aload_n hx hb dX2_stepBack_0 rfl (lv_at hl 0 rfl) ?_
  refine va_get (D := D) (ci := 1) (v := .int (σ.1 106)) (C := RX2) (T := TX2) (N := 7) hx hb hts inX2 hown hK hP 0 inw_o0 rfl 5 (by decide) fl29 (fun _ h9 => h9) rfl dX2_stepBack_1 ?_
  refine lv_if_gt (tgt := 9) hx hb dX2_stepBack_4 (by decide) (fun c_1 => ?_) (fun c_1 => ?_)
  · have kc_1 : (σ.1 106).toInt > 0 := by have h9 := c_1; simp only [ge_iff_le, gt_iff_lt, x_lt, x_le, x_eq, ne_eq, Int32.not_lt, Int32.not_le] at h9; simp only [Int32.reduceToInt] at h9; omega
    refine lv_aload_n hx hb dX2_stepBack_9 rfl (lv_at hl 0 rfl) ?_
    refine lv_dup hx hb dX2_stepBack_10 rfl ?_
    refine va_get (D := D) (ci := 1) (v := .int (σ.1 106)) (C := RX2) (T := TX2) (N := 7) hx hb hts inX2 hown hK hP 0 inw_o0 rfl 5 (by decide) fl29 (fun _ h9 => h9) rfl dX2_stepBack_11 ?_
    refine lv_iconst (v := 1) hx hb dX2_stepBack_14 (by decide) ?_
    refine lv_isub hx hb dX2_stepBack_15 ?_
    refine lv_topi (fun i_2 ei_2 => ?_)
    have vi_2 : i_2.toInt = (σ.1 106).toInt - 1 := by have h9 := x_sub ei_2 (by omega) (by omega); omega
    refine va_put (D := D) (ci := 1) (v := .int i_2) (ty := .int) (C := RX2) (T := TX2) (N := 7) hx hb hts inX2 tyX2 tyX2_ok nmX2 hown hK hP hD hS 0 inw_o0 rfl 5 (by decide) fl29 (fun _ h9 => h9) rfl (by decide +kernel) rfl rfl (Nat.le_of_ble_eq_true rfl) dX2_stepBack_16 (fun H locs hP hD hS => ?_)
    have hP : va_P D vwCl (inw y ad (sI σ 106 i_2)) H := x_trP hP inw_p0_5
    have hD : va_D A (inw y ad (sI σ 106 i_2)) := x_trD hD inw_p0_5
    refine lv_aload_n hx hb dX2_stepBack_19 rfl (lv_at hl 0 rfl) ?_
    refine va_get (D := D) (ci := 1) (v := .ref (ad 101)) (C := RX2) (T := TX2) (N := 7) hx hb hts inX2 hown hK hP 0 inw_o0 rfl 0 (by decide) fl9 (fun _ h9 => h9) rfl dX2_stepBack_20 ?_
    refine lv_aload_n hx hb dX2_stepBack_23 rfl (lv_at hl 0 rfl) ?_
    refine va_get (D := D) (ci := 1) (v := .ref (ad 102)) (C := RX2) (T := TX2) (N := 7) hx hb hts inX2 hown hK hP 0 inw_o0 rfl 1 (by decide) fl15 (fun _ h9 => h9) rfl dX2_stepBack_24 ?_
    refine lv_aload_n hx hb dX2_stepBack_27 rfl (lv_at hl 0 rfl) ?_
    refine va_get (D := D) (ci := 1) (v := .int i_2) (C := RX2) (T := TX2) (N := 7) hx hb hts inX2 hown hK hP 0 inw_o0 rfl 5 (by decide) fl29 (fun _ h9 => h9) rfl dX2_stepBack_28 ?_
    refine va_iald hx hb hK hP 2 2 inw_a2 rfl (x_in (by omega) (by omega)) dX2_stepBack_31 ?_
    refine lv_topi (fun i_3 ei_3 => ?_)
    have ei_3 : i_3 = (σ.2.2.1 102) (Int32.toNatClampNeg i_2) := ei_3
    have bi_3 := b_at hB102 ei_3
    refine lv_aload_n hx hb dX2_stepBack_32 rfl (lv_at hl 0 rfl) ?_
    refine va_get (D := D) (ci := 1) (v := .ref (ad 103)) (C := RX2) (T := TX2) (N := 7) hx hb hts inX2 hown hK hP 0 inw_o0 rfl 2 (by decide) fl19 (fun _ h9 => h9) rfl dX2_stepBack_33 ?_
    refine lv_aload_n hx hb dX2_stepBack_36 rfl (lv_at hl 0 rfl) ?_
    refine va_get (D := D) (ci := 1) (v := .int i_2) (C := RX2) (T := TX2) (N := 7) hx hb hts inX2 hown hK hP 0 inw_o0 rfl 5 (by decide) fl29 (fun _ h9 => h9) rfl dX2_stepBack_37 ?_
    refine va_lald hx hb hK hP 3 3 inw_a3 rfl (x_in (by omega) (by omega)) dX2_stepBack_40 ?_
    refine lv_topl (fun j_4 ej_4 => ?_)
    have ej_4 : j_4 = (σ.2.2.2 103) (Int32.toNatClampNeg i_2) := ej_4
    refine va_last hx hb hK hP hD hS 1 3 inw_a1 rfl (x_in (by omega) (by omega)) dX2_stepBack_41 (fun H locs hP hD hS => ?_)
    obtain ⟨f_5, ef_5⟩ : ∃ z9 : Nat → Int64, z9 = (vp_updL (σ.2.2.2 101) (Int32.toNatClampNeg i_3) j_4) := ⟨_, rfl⟩
    have hP : va_P D vwCl (inw y ad (tJ (sI σ 106 i_2) 101 f_5)) H := by rw [ef_5]; exact x_trP hP inw_s1
    have hD : va_D A (inw y ad (tJ (sI σ 106 i_2) 101 f_5)) := by rw [ef_5]; exact x_trD hD inw_s1
    refine lv_iconst (v := 1) hx hb dX2_stepBack_42 (by decide) ?_
    exact x_zretW (v := 1) (u := (i_2, f_5)) hx hb hr hQ rfl (by (try dsimp only); exact ⟨by omega, by omega, by decide⟩) hP hD hK hS dX2_stepBack_43 hlocks
  · have kc_1 : (σ.1 106).toInt ≤ 0 := by have h9 := c_1; simp only [ge_iff_le, gt_iff_lt, x_lt, x_le, x_eq, ne_eq, Int32.not_lt, Int32.not_le] at h9; simp only [Int32.reduceToInt] at h9; omega
    refine lv_iconst (v := 0) hx hb dX2_stepBack_7 (by decide) ?_
    have hP : va_P D vwCl (inw y ad (tJ (sI σ 106 (σ.1 106)) 101 (σ.2.2.2 101))) H := hP
    have hD : va_D A (inw y ad (tJ (sI σ 106 (σ.1 106)) 101 (σ.2.2.2 101))) := hD
    exact x_zretW (v := 0) (u := ((σ.1 106), (σ.2.2.2 101))) hx hb hr hQ rfl (by (try dsimp only); exact ⟨by omega, by omega, by decide⟩) hP hD hK hS dX2_stepBack_8 hlocks

def v_i_stepOn2 : List Cond := .code yX2_stepOn cX2_stepOn 1 (some .boolean) :: ([.fieldLink RX2 29 "SlopeRunner$Inputs" "done" "I", .fieldLink RX2 32 "SlopeRunner$Inputs" "known" "I", .fieldLink RX2 9 "SlopeRunner$Inputs" "value" "[J", .fieldLink RX2 15 "SlopeRunner$Inputs" "changed" "[I", .fieldLink RX2 22 "SlopeRunner$Inputs" "after" "[J"] ++ wsX20)
set_option maxHeartbeats 4000000 in
set_option maxRecDepth 100000 in
theorem i_stepOn2 (l : Launch) (D : va_G) (y : Nat → ClassId) (sz : Nat) (ad : Nat → Nat) (σ : OS) (hdn0 : 0 ≤ (σ.1 106).toInt) (hdn1 : (σ.1 106).toInt ≤ (σ.1 107).toInt) (hkn : (σ.1 107).toInt ≤ 40)  (hB102 : bI (σ.2.2.1 102) 0 7) : Met l yX2_stepOn v_i_stepOn2 ({ frames := 0, cells := 0, slots := 0, locals := 0 } : Room) (va_Pc [.ref (ad 100)] (xPre D (xT y) (inw y ad σ) sz)) (va_Qi (fun (r : Int32) (u : Int32 × (Nat → Int64)) => 0 ≤ u.1.toInt ∧ u.1.toInt ≤ (σ.1 107).toInt ∧ (r.toInt = 0 ∨ r.toInt = 1)) (fun (u : Int32 × (Nat → Int64)) => xB D (xT y) (va_A (inw y ad σ) sz) (inw y ad (tJ (sI σ 106 u.1) 101 u.2))) (va_A (inw y ad σ) sz)) 0 0 (va_A (inw y ad σ) sz) := by
  refine x_meti (cc := cX2_stepOn) (maxL := 1) (by decide) rfl (Nat.le_of_ble_eq_true rfl) ?_
  intro p e s m below meth c A H locs Q hx hb hml hown hts hr hlocks hmn hA hP hK hD hS ls hl hQ
  have hl : lv_has ls 1 [(0, .ref (ad 100))] := hl
  have fl29 := hts (.fieldLink RX2 29 "SlopeRunner$Inputs" "done" "I") (List.mem_of_getElem? (i := 1) rfl)
  have inX2 : ∀ w ∈ wsX20, w ∈ v_i_stepOn2 := (fun w h => List.mem_cons_of_mem _ (List.mem_append_right _ h))
  have fl32 := hts (.fieldLink RX2 32 "SlopeRunner$Inputs" "known" "I") (List.mem_of_getElem? (i := 2) rfl)
  have fl9 := hts (.fieldLink RX2 9 "SlopeRunner$Inputs" "value" "[J") (List.mem_of_getElem? (i := 3) rfl)
  have fl15 := hts (.fieldLink RX2 15 "SlopeRunner$Inputs" "changed" "[I") (List.mem_of_getElem? (i := 4) rfl)
  have fl22 := hts (.fieldLink RX2 22 "SlopeRunner$Inputs" "after" "[J") (List.mem_of_getElem? (i := 5) rfl)
  have kk_1 : (1 : Int32).toInt = 1 := rfl
  have kk_0 : (0 : Int32).toInt = 0 := rfl
  refine lv_aload_n hx hb dX2_stepOn_0 rfl (lv_at hl 0 rfl) ?_
  refine va_get (D := D) (ci := 1) (v := .int (σ.1 106)) (C := RX2) (T := TX2) (N := 7) hx hb hts inX2 hown hK hP 0 inw_o0 rfl 5 (by decide) fl29 (fun _ h9 => h9) rfl dX2_stepOn_1 ?_
  refine lv_aload_n hx hb dX2_stepOn_4 rfl (lv_at hl 0 rfl) ?_
  refine va_get (D := D) (ci := 1) (v := .int (σ.1 107)) (C := RX2) (T := TX2) (N := 7) hx hb hts inX2 hown hK hP 0 inw_o0 rfl 6 (by decide) fl32 (fun _ h9 => h9) rfl dX2_stepOn_5 ?_
  refine lv_icmp_lt (tgt := 13) hx hb dX2_stepOn_8 (by decide) (fun c_1 => ?_) (fun c_1 => ?_)
  · have kc_1 : (σ.1 106).toInt < (σ.1 107).toInt := by have h9 := c_1; simp only [ge_iff_le, gt_iff_lt, x_lt, x_le, x_eq, ne_eq, Int32.not_lt, Int32.not_le] at h9; omega
    refine lv_aload_n hx hb dX2_stepOn_13 rfl (lv_at hl 0 rfl) ?_
    refine va_get (D := D) (ci := 1) (v := .ref (ad 101)) (C := RX2) (T := TX2) (N := 7) hx hb hts inX2 hown hK hP 0 inw_o0 rfl 0 (by decide) fl9 (fun _ h9 => h9) rfl dX2_stepOn_14 ?_
    refine lv_aload_n hx hb dX2_stepOn_17 rfl (lv_at hl 0 rfl) ?_
    refine va_get (D := D) (ci := 1) (v := .ref (ad 102)) (C := RX2) (T := TX2) (N := 7) hx hb hts inX2 hown hK hP 0 inw_o0 rfl 1 (by decide) fl15 (fun _ h9 => h9) rfl dX2_stepOn_18 ?_
    refine lv_aload_n hx hb dX2_stepOn_21 rfl (lv_at hl 0 rfl) ?_
    refine va_get (D := D) (ci := 1) (v := .int (σ.1 106)) (C := RX2) (T := TX2) (N := 7) hx hb hts inX2 hown hK hP 0 inw_o0 rfl 5 (by decide) fl29 (fun _ h9 => h9) rfl dX2_stepOn_22 ?_
    refine va_iald hx hb hK hP 2 2 inw_a2 rfl (x_in (by omega) (by omega)) dX2_stepOn_25 ?_
    refine lv_topi (fun i_2 ei_2 => ?_)
    have ei_2 : i_2 = (σ.2.2.1 102) (Int32.toNatClampNeg (σ.1 106)) := ei_2
    have bi_2 := b_at hB102 ei_2
    refine lv_aload_n hx hb dX2_stepOn_26 rfl (lv_at hl 0 rfl) ?_
    refine va_get (D := D) (ci := 1) (v := .ref (ad 104)) (C := RX2) (T := TX2) (N := 7) hx hb hts inX2 hown hK hP 0 inw_o0 rfl 3 (by decide) fl22 (fun _ h9 => h9) rfl dX2_stepOn_27 ?_
    refine lv_aload_n hx hb dX2_stepOn_30 rfl (lv_at hl 0 rfl) ?_
    refine va_get (D := D) (ci := 1) (v := .int (σ.1 106)) (C := RX2) (T := TX2) (N := 7) hx hb hts inX2 hown hK hP 0 inw_o0 rfl 5 (by decide) fl29 (fun _ h9 => h9) rfl dX2_stepOn_31 ?_
    refine va_lald hx hb hK hP 4 3 inw_a4 rfl (x_in (by omega) (by omega)) dX2_stepOn_34 ?_
    refine lv_topl (fun j_3 ej_3 => ?_)
    have ej_3 : j_3 = (σ.2.2.2 104) (Int32.toNatClampNeg (σ.1 106)) := ej_3
    refine va_last hx hb hK hP hD hS 1 3 inw_a1 rfl (x_in (by omega) (by omega)) dX2_stepOn_35 (fun H locs hP hD hS => ?_)
    obtain ⟨f_4, ef_4⟩ : ∃ z9 : Nat → Int64, z9 = (vp_updL (σ.2.2.2 101) (Int32.toNatClampNeg i_2) j_3) := ⟨_, rfl⟩
    have hP : va_P D vwCl (inw y ad (tJ σ 101 f_4)) H := by rw [ef_4]; exact x_trP hP inw_s1
    have hD : va_D A (inw y ad (tJ σ 101 f_4)) := by rw [ef_4]; exact x_trD hD inw_s1
    refine lv_aload_n hx hb dX2_stepOn_36 rfl (lv_at hl 0 rfl) ?_
    refine lv_dup hx hb dX2_stepOn_37 rfl ?_
    refine va_get (D := D) (ci := 1) (v := .int (σ.1 106)) (C := RX2) (T := TX2) (N := 7) hx hb hts inX2 hown hK hP 0 inw_o0 rfl 5 (by decide) fl29 (fun _ h9 => h9) rfl dX2_stepOn_38 ?_
    refine lv_iconst (v := 1) hx hb dX2_stepOn_41 (by decide) ?_
    refine lv_iadd hx hb dX2_stepOn_42 ?_
    refine lv_topi (fun i_5 ei_5 => ?_)
    have vi_5 : i_5.toInt = (σ.1 106).toInt + 1 := by have h9 := x_add ei_5 (by omega) (by omega); omega
    refine va_put (D := D) (ci := 1) (v := .int i_5) (ty := .int) (C := RX2) (T := TX2) (N := 7) hx hb hts inX2 tyX2 tyX2_ok nmX2 hown hK hP hD hS 0 inw_o0 rfl 5 (by decide) fl29 (fun _ h9 => h9) rfl (by decide +kernel) rfl rfl (Nat.le_of_ble_eq_true rfl) dX2_stepOn_43 (fun H locs hP hD hS => ?_)
    have hP : va_P D vwCl (inw y ad (sI (tJ σ 101 f_4) 106 i_5)) H := x_trP hP inw_p0_5
    have hD : va_D A (inw y ad (sI (tJ σ 101 f_4) 106 i_5)) := x_trD hD inw_p0_5
    refine lv_iconst (v := 1) hx hb dX2_stepOn_46 (by decide) ?_
    have hP : va_P D vwCl (inw y ad (tJ (sI σ 106 i_5) 101 f_4)) H := hP
    have hD : va_D A (inw y ad (tJ (sI σ 106 i_5) 101 f_4)) := hD
    exact x_zretW (v := 1) (u := (i_5, f_4)) hx hb hr hQ rfl (by (try dsimp only); exact ⟨by omega, by omega, by decide⟩) hP hD hK hS dX2_stepOn_47 hlocks
  · have kc_1 : (σ.1 106).toInt ≥ (σ.1 107).toInt := by have h9 := c_1; simp only [ge_iff_le, gt_iff_lt, x_lt, x_le, x_eq, ne_eq, Int32.not_lt, Int32.not_le] at h9; omega
    refine lv_iconst (v := 0) hx hb dX2_stepOn_11 (by decide) ?_
    have hP : va_P D vwCl (inw y ad (tJ (sI σ 106 (σ.1 106)) 101 (σ.2.2.2 101))) H := hP
    have hD : va_D A (inw y ad (tJ (sI σ 106 (σ.1 106)) 101 (σ.2.2.2 101))) := hD
    exact x_zretW (v := 0) (u := ((σ.1 106), (σ.2.2.2 101))) hx hb hr hQ rfl (by (try dsimp only); exact ⟨by omega, by omega, by decide⟩) hP hD hK hS dX2_stepOn_12 hlocks

def v_x_m_undo : List Cond := .code yX11_undo cX11_undo 1 (some .boolean) :: ([.fieldLink RX11 26 "SlopeRunner" "inputs" "LSlopeRunner$Inputs;"] ++ ((wsV RX11 142 RX2 yX2_stepBack v_i_stepBack2) ++ wsX110))
theorem g_x_m_undo_0 : GoodIn v_x_m_undo (wsV RX11 142 RX2 yX2_stepBack v_i_stepBack2) := goodIn_sub (fun w h => List.mem_cons_of_mem _ (List.mem_append_right _ (List.mem_append_left _ h))) (by decide +kernel)
set_option maxHeartbeats 4000000 in
set_option maxRecDepth 100000 in
theorem x_m_undo (l : Launch) (D : va_G) (y : Nat → ClassId) (sz : Nat) (ad : Nat → Nat) (iv : Value) (pv : Value) (tv : Value) (kt : va_W) (σ : OS) (hxi : XI σ) : Met l yX11_undo v_x_m_undo ({ frames := 1, cells := 0, slots := 0, locals := 20 } : Room) (va_Pc [.ref (ad 0)] (xPre D (xT y) (xwd y ad iv pv tv kt σ) sz)) (va_Qi (fun (r : Int32) (u : OS) => XI u ∧ ((u.1 22) = σ.1 22)) (fun (u : OS) => xB D (xT y) (va_A (xwd y ad iv pv tv kt σ) sz) (xwd y ad iv pv tv kt u)) (va_A (xwd y ad iv pv tv kt σ) sz)) 0 0 (va_A (xwd y ad iv pv tv kt σ) sz) := by
  refine x_meti (cc := cX11_undo) (maxL := 1) (by decide) rfl (Nat.le_of_ble_eq_true rfl) ?_
  intro p e s m below meth c A H locs Q hx hb hml hown hts hr hlocks hmn hA hP hK hD hS ls hl hQ
  have hl : lv_has ls 1 [(0, .ref (ad 0))] := hl
  have fl26 := hts (.fieldLink RX11 26 "SlopeRunner" "inputs" "LSlopeRunner$Inputs;") (List.mem_of_getElem? (i := 1) rfl)
  have inX11 : ∀ w ∈ wsX110, w ∈ v_x_m_undo := (fun w h => List.mem_cons_of_mem _ (List.mem_append_right _ (List.mem_append_right _ h)))
  obtain ⟨hxi0, hxi1, hxi2, hxi3, hxi4, hxi5, hxi6, hxi7, hxi8, hxi9, hxi10, hxi11, hxi12, hxi13, hxi14, hxi15, hxi16, hxi17, hxi18, hxi19, hxi20, hxi21, hxi22, hxi23, hxb102, hxb133, hxb134, hxb135, hxb153, hxb154, hxb155⟩ := hxi
  refine lv_aload_n hx hb dX11_undo_0 rfl (lv_at hl 0 rfl) ?_
  refine va_get (D := D) (ci := 10) (v := .ref (ad 100)) (C := RX11) (T := TX11) (N := 11) hx hb hts inX11 hown hK hP 0 xwd_o0 rfl 2 (by decide) fl26 (fun _ h9 => h9) rfl dX11_undo_1 ?_
  have hPs : va_P D vwCl (inw y ad σ) H := x_suP hP [6, 29, 30, 31, 32] rfl
  have hDs : va_D A (inw y ad σ) := x_suD hD [6, 29, 30, 31, 32] rfl (by decide)
  refine x_calliT (b1 := fun (u : Int32 × (Nat → Int64)) => (xwd y ad iv pv tv kt (tJ (sI σ 106 u.1) 101 u.2))) [6, 29, 30, 31, 32] [none, none, none, none, none, none, some 0, none, none, none, none, none, none, none, none, none, none, none, none, none, none, none, none, none, none, none, none, none, none, some 1, some 2, some 3, some 4, none, none, none, none, none, none, none, none, none, none, none, none, none, none, none, none, none, none, none] 5 (va_runV (As := []) (rest := []) ⟨hx, hb, hml, hown, hts⟩ (i_stepBack2 l D y H.size ad σ (show 0 ≤ ((σ.1 106)).toInt from by first | omega | decide) (show ((σ.1 106)).toInt ≤ ((σ.1 107)).toInt from by first | omega | decide) (show ((σ.1 107)).toInt ≤ 40 from by first | omega | decide) hxb102) (cwV 0 hts g_x_m_undo_0 rfl rfl rfl (by decide +kernel) ⟨Nat.le_of_ble_eq_true rfl, Nat.le_of_ble_eq_true rfl⟩) (x_preV (q := (RX2, TX2, 7)) hK hPs hDs (ci := 1) (q0 := 0) rfl inw_o0) rfl rfl hl.1 rfl (lv_room (Nat.le_of_ble_eq_true rfl)) dX11_undo_4 ⟨Nat.le_of_ble_eq_true rfl, Nat.le_of_ble_eq_true rfl⟩) hP hD hS hA rfl (fun _ => xwd_in_inw (agr_tJ (agr_sI (agr_refl _ _) rfl) rfl)) (fun _ => rfl) (fun _ => rfl) rfl (fun r_1 u H locs hw hP hD hS => ?_)
  obtain ⟨n_2, f_3⟩ := u
  try dsimp only at hw
  have hP : va_P D vwCl (xwd y ad iv pv tv kt (tJ (sI σ 106 n_2) 101 f_3)) H := hP
  have hD : va_D A (xwd y ad iv pv tv kt (tJ (sI σ 106 n_2) 101 f_3)) := hD
  replace hw : 0 ≤ n_2.toInt ∧ n_2.toInt ≤ ((σ.1 107)).toInt ∧ (r_1.toInt = 0 ∨ r_1.toInt = 1) := hw
  obtain ⟨t_4, et_4⟩ : ∃ z9 : OS, z9 = (tJ (sI σ 106 n_2) 101 f_3) := ⟨_, rfl⟩
  rw [← et_4] at hP hD
  have qt_4_22 : (t_4.1 22).toInt = (σ.1 22).toInt := by rw [et_4]; rfl
  have qt_4_81 : (t_4.1 81).toInt = (σ.1 81).toInt := by rw [et_4]; rfl
  have qt_4_82 : (t_4.1 82).toInt = (σ.1 82).toInt := by rw [et_4]; rfl
  have qt_4_85 : (t_4.1 85).toInt = (σ.1 85).toInt := by rw [et_4]; rfl
  have qt_4_86 : (t_4.1 86).toInt = (σ.1 86).toInt := by rw [et_4]; rfl
  have qt_4_105 : (t_4.1 105).toInt = (σ.1 105).toInt := by rw [et_4]; rfl
  have qt_4_137 : (t_4.1 137).toInt = (σ.1 137).toInt := by rw [et_4]; rfl
  have qt_4_139 : (t_4.1 139).toInt = (σ.1 139).toInt := by rw [et_4]; rfl
  have qt_4_141 : (t_4.1 141).toInt = (σ.1 141).toInt := by rw [et_4]; rfl
  have qt_4_183 : (t_4.1 183).toInt = (σ.1 183).toInt := by rw [et_4]; rfl
  have qt_4_138 : (t_4.1 138).toInt = (σ.1 138).toInt := by rw [et_4]; rfl
  have qt_4_106 : (t_4.1 106).toInt = n_2.toInt := by rw [et_4]; rfl
  have qt_4_107 : (t_4.1 107).toInt = (σ.1 107).toInt := by rw [et_4]; rfl
  have bt_4_102 : bI (t_4.2.2.1 102) 0 7 := by rw [et_4]; exact hxb102
  have bt_4_133 : bI (t_4.2.2.1 133) 0 1358 := by rw [et_4]; exact hxb133
  have bt_4_134 : bI (t_4.2.2.1 134) 0 1358 := by rw [et_4]; exact hxb134
  have bt_4_135 : bI (t_4.2.2.1 135) 0 1358 := by rw [et_4]; exact hxb135
  have bt_4_153 : bI (t_4.2.2.1 153) 0 1358 := by rw [et_4]; exact hxb153
  have bt_4_154 : bI (t_4.2.2.1 154) 0 1358 := by rw [et_4]; exact hxb154
  have bt_4_155 : bI (t_4.2.2.1 155) 0 1358 := by rw [et_4]; exact hxb155
  have hP : va_P D vwCl (xwd y ad iv pv tv kt t_4) H := hP
  have hD : va_D A (xwd y ad iv pv tv kt t_4) := hD
  exact x_zretW (v := r_1) (u := t_4) hx hb hr hQ (x_01 (by omega)) ⟨(show 0 ≤ ((t_4.1 22)).toInt ∧ ((t_4.1 22)).toInt ≤ 700 ∧ 0 ≤ ((t_4.1 81)).toInt ∧ ((t_4.1 81)).toInt ≤ 8 ∧ 0 ≤ ((t_4.1 82)).toInt ∧ ((t_4.1 82)).toInt ≤ 4 ∧ 0 ≤ ((t_4.1 85)).toInt ∧ ((t_4.1 85)).toInt ≤ 350 ∧ 0 ≤ ((t_4.1 86)).toInt ∧ ((t_4.1 86)).toInt ≤ 700 ∧ 0 ≤ ((t_4.1 105)).toInt ∧ ((t_4.1 105)).toInt ≤ 8 ∧ 0 ≤ ((t_4.1 137)).toInt ∧ ((t_4.1 137)).toInt ≤ 8 ∧ 0 ≤ ((t_4.1 139)).toInt ∧ ((t_4.1 139)).toInt ≤ 1359 ∧ 0 ≤ ((t_4.1 141)).toInt ∧ ((t_4.1 141)).toInt ≤ 12 ∧ 0 ≤ ((t_4.1 183)).toInt ∧ ((t_4.1 183)).toInt ≤ 8 ∧ 0 ≤ ((t_4.1 138)).toInt ∧ 0 ≤ ((t_4.1 106)).toInt ∧ ((t_4.1 106)).toInt ≤ ((t_4.1 107)).toInt ∧ ((t_4.1 107)).toInt ≤ 40 ∧ bI ((t_4.2.2.1 102)) 0 7 ∧ bI ((t_4.2.2.1 133)) 0 1358 ∧ bI ((t_4.2.2.1 134)) 0 1358 ∧ bI ((t_4.2.2.1 135)) 0 1358 ∧ bI ((t_4.2.2.1 153)) 0 1358 ∧ bI ((t_4.2.2.1 154)) 0 1358 ∧ bI ((t_4.2.2.1 155)) 0 1358 from ⟨by omega, by omega, by omega, by omega, by omega, by omega, by omega, by omega, by omega, by omega, by omega, by omega, by omega, by omega, by omega, by omega, by omega, by omega, by omega, by omega, by omega, by omega, by omega, by omega, bt_4_102, bt_4_133, bt_4_134, bt_4_135, bt_4_153, bt_4_154, bt_4_155⟩), (Int32.toInt_inj.mp (by omega))⟩ hP hD hK hS dX11_undo_7 hlocks

def v_x_m_redo : List Cond := .code yX11_redo cX11_redo 1 (some .boolean) :: ([.fieldLink RX11 26 "SlopeRunner" "inputs" "LSlopeRunner$Inputs;"] ++ ((wsV RX11 146 RX2 yX2_stepOn v_i_stepOn2) ++ wsX110))
theorem g_x_m_redo_0 : GoodIn v_x_m_redo (wsV RX11 146 RX2 yX2_stepOn v_i_stepOn2) := goodIn_sub (fun w h => List.mem_cons_of_mem _ (List.mem_append_right _ (List.mem_append_left _ h))) (by decide +kernel)
set_option maxHeartbeats 4000000 in
set_option maxRecDepth 100000 in
theorem x_m_redo (l : Launch) (D : va_G) (y : Nat → ClassId) (sz : Nat) (ad : Nat → Nat) (iv : Value) (pv : Value) (tv : Value) (kt : va_W) (σ : OS) (hxi : XI σ) : Met l yX11_redo v_x_m_redo ({ frames := 1, cells := 0, slots := 0, locals := 20 } : Room) (va_Pc [.ref (ad 0)] (xPre D (xT y) (xwd y ad iv pv tv kt σ) sz)) (va_Qi (fun (r : Int32) (u : OS) => XI u ∧ ((u.1 22) = σ.1 22)) (fun (u : OS) => xB D (xT y) (va_A (xwd y ad iv pv tv kt σ) sz) (xwd y ad iv pv tv kt u)) (va_A (xwd y ad iv pv tv kt σ) sz)) 0 0 (va_A (xwd y ad iv pv tv kt σ) sz) := by
  refine x_meti (cc := cX11_redo) (maxL := 1) (by decide) rfl (Nat.le_of_ble_eq_true rfl) ?_
  intro p e s m below meth c A H locs Q hx hb hml hown hts hr hlocks hmn hA hP hK hD hS ls hl hQ
  have hl : lv_has ls 1 [(0, .ref (ad 0))] := hl
  have fl26 := hts (.fieldLink RX11 26 "SlopeRunner" "inputs" "LSlopeRunner$Inputs;") (List.mem_of_getElem? (i := 1) rfl)
  have inX11 : ∀ w ∈ wsX110, w ∈ v_x_m_redo := (fun w h => List.mem_cons_of_mem _ (List.mem_append_right _ (List.mem_append_right _ h)))
  obtain ⟨hxi0, hxi1, hxi2, hxi3, hxi4, hxi5, hxi6, hxi7, hxi8, hxi9, hxi10, hxi11, hxi12, hxi13, hxi14, hxi15, hxi16, hxi17, hxi18, hxi19, hxi20, hxi21, hxi22, hxi23, hxb102, hxb133, hxb134, hxb135, hxb153, hxb154, hxb155⟩ := hxi
  refine lv_aload_n hx hb dX11_redo_0 rfl (lv_at hl 0 rfl) ?_
  refine va_get (D := D) (ci := 10) (v := .ref (ad 100)) (C := RX11) (T := TX11) (N := 11) hx hb hts inX11 hown hK hP 0 xwd_o0 rfl 2 (by decide) fl26 (fun _ h9 => h9) rfl dX11_redo_1 ?_
  have hPs : va_P D vwCl (inw y ad σ) H := x_suP hP [6, 29, 30, 31, 32] rfl
  have hDs : va_D A (inw y ad σ) := x_suD hD [6, 29, 30, 31, 32] rfl (by decide)
  refine x_calliT (b1 := fun (u : Int32 × (Nat → Int64)) => (xwd y ad iv pv tv kt (tJ (sI σ 106 u.1) 101 u.2))) [6, 29, 30, 31, 32] [none, none, none, none, none, none, some 0, none, none, none, none, none, none, none, none, none, none, none, none, none, none, none, none, none, none, none, none, none, none, some 1, some 2, some 3, some 4, none, none, none, none, none, none, none, none, none, none, none, none, none, none, none, none, none, none, none] 5 (va_runV (As := []) (rest := []) ⟨hx, hb, hml, hown, hts⟩ (i_stepOn2 l D y H.size ad σ (show 0 ≤ ((σ.1 106)).toInt from by first | omega | decide) (show ((σ.1 106)).toInt ≤ ((σ.1 107)).toInt from by first | omega | decide) (show ((σ.1 107)).toInt ≤ 40 from by first | omega | decide) hxb102) (cwV 0 hts g_x_m_redo_0 rfl rfl rfl (by decide +kernel) ⟨Nat.le_of_ble_eq_true rfl, Nat.le_of_ble_eq_true rfl⟩) (x_preV (q := (RX2, TX2, 7)) hK hPs hDs (ci := 1) (q0 := 0) rfl inw_o0) rfl rfl hl.1 rfl (lv_room (Nat.le_of_ble_eq_true rfl)) dX11_redo_4 ⟨Nat.le_of_ble_eq_true rfl, Nat.le_of_ble_eq_true rfl⟩) hP hD hS hA rfl (fun _ => xwd_in_inw (agr_tJ (agr_sI (agr_refl _ _) rfl) rfl)) (fun _ => rfl) (fun _ => rfl) rfl (fun r_1 u H locs hw hP hD hS => ?_)
  obtain ⟨n_2, f_3⟩ := u
  try dsimp only at hw
  have hP : va_P D vwCl (xwd y ad iv pv tv kt (tJ (sI σ 106 n_2) 101 f_3)) H := hP
  have hD : va_D A (xwd y ad iv pv tv kt (tJ (sI σ 106 n_2) 101 f_3)) := hD
  replace hw : 0 ≤ n_2.toInt ∧ n_2.toInt ≤ ((σ.1 107)).toInt ∧ (r_1.toInt = 0 ∨ r_1.toInt = 1) := hw
  obtain ⟨t_4, et_4⟩ : ∃ z9 : OS, z9 = (tJ (sI σ 106 n_2) 101 f_3) := ⟨_, rfl⟩
  rw [← et_4] at hP hD
  have qt_4_22 : (t_4.1 22).toInt = (σ.1 22).toInt := by rw [et_4]; rfl
  have qt_4_81 : (t_4.1 81).toInt = (σ.1 81).toInt := by rw [et_4]; rfl
  have qt_4_82 : (t_4.1 82).toInt = (σ.1 82).toInt := by rw [et_4]; rfl
  have qt_4_85 : (t_4.1 85).toInt = (σ.1 85).toInt := by rw [et_4]; rfl
  have qt_4_86 : (t_4.1 86).toInt = (σ.1 86).toInt := by rw [et_4]; rfl
  have qt_4_105 : (t_4.1 105).toInt = (σ.1 105).toInt := by rw [et_4]; rfl
  have qt_4_137 : (t_4.1 137).toInt = (σ.1 137).toInt := by rw [et_4]; rfl
  have qt_4_139 : (t_4.1 139).toInt = (σ.1 139).toInt := by rw [et_4]; rfl
  have qt_4_141 : (t_4.1 141).toInt = (σ.1 141).toInt := by rw [et_4]; rfl
  have qt_4_183 : (t_4.1 183).toInt = (σ.1 183).toInt := by rw [et_4]; rfl
  have qt_4_138 : (t_4.1 138).toInt = (σ.1 138).toInt := by rw [et_4]; rfl
  have qt_4_106 : (t_4.1 106).toInt = n_2.toInt := by rw [et_4]; rfl
  have qt_4_107 : (t_4.1 107).toInt = (σ.1 107).toInt := by rw [et_4]; rfl
  have bt_4_102 : bI (t_4.2.2.1 102) 0 7 := by rw [et_4]; exact hxb102
  have bt_4_133 : bI (t_4.2.2.1 133) 0 1358 := by rw [et_4]; exact hxb133
  have bt_4_134 : bI (t_4.2.2.1 134) 0 1358 := by rw [et_4]; exact hxb134
  have bt_4_135 : bI (t_4.2.2.1 135) 0 1358 := by rw [et_4]; exact hxb135
  have bt_4_153 : bI (t_4.2.2.1 153) 0 1358 := by rw [et_4]; exact hxb153
  have bt_4_154 : bI (t_4.2.2.1 154) 0 1358 := by rw [et_4]; exact hxb154
  have bt_4_155 : bI (t_4.2.2.1 155) 0 1358 := by rw [et_4]; exact hxb155
  have hP : va_P D vwCl (xwd y ad iv pv tv kt t_4) H := hP
  have hD : va_D A (xwd y ad iv pv tv kt t_4) := hD
  exact x_zretW (v := r_1) (u := t_4) hx hb hr hQ (x_01 (by omega)) ⟨(show 0 ≤ ((t_4.1 22)).toInt ∧ ((t_4.1 22)).toInt ≤ 700 ∧ 0 ≤ ((t_4.1 81)).toInt ∧ ((t_4.1 81)).toInt ≤ 8 ∧ 0 ≤ ((t_4.1 82)).toInt ∧ ((t_4.1 82)).toInt ≤ 4 ∧ 0 ≤ ((t_4.1 85)).toInt ∧ ((t_4.1 85)).toInt ≤ 350 ∧ 0 ≤ ((t_4.1 86)).toInt ∧ ((t_4.1 86)).toInt ≤ 700 ∧ 0 ≤ ((t_4.1 105)).toInt ∧ ((t_4.1 105)).toInt ≤ 8 ∧ 0 ≤ ((t_4.1 137)).toInt ∧ ((t_4.1 137)).toInt ≤ 8 ∧ 0 ≤ ((t_4.1 139)).toInt ∧ ((t_4.1 139)).toInt ≤ 1359 ∧ 0 ≤ ((t_4.1 141)).toInt ∧ ((t_4.1 141)).toInt ≤ 12 ∧ 0 ≤ ((t_4.1 183)).toInt ∧ ((t_4.1 183)).toInt ≤ 8 ∧ 0 ≤ ((t_4.1 138)).toInt ∧ 0 ≤ ((t_4.1 106)).toInt ∧ ((t_4.1 106)).toInt ≤ ((t_4.1 107)).toInt ∧ ((t_4.1 107)).toInt ≤ 40 ∧ bI ((t_4.2.2.1 102)) 0 7 ∧ bI ((t_4.2.2.1 133)) 0 1358 ∧ bI ((t_4.2.2.1 134)) 0 1358 ∧ bI ((t_4.2.2.1 135)) 0 1358 ∧ bI ((t_4.2.2.1 153)) 0 1358 ∧ bI ((t_4.2.2.1 154)) 0 1358 ∧ bI ((t_4.2.2.1 155)) 0 1358 from ⟨by omega, by omega, by omega, by omega, by omega, by omega, by omega, by omega, by omega, by omega, by omega, by omega, by omega, by omega, by omega, by omega, by omega, by omega, by omega, by omega, by omega, by omega, by omega, by omega, bt_4_102, bt_4_133, bt_4_134, bt_4_135, bt_4_153, bt_4_154, bt_4_155⟩), (Int32.toInt_inj.mp (by omega))⟩ hP hD hK hS dX11_redo_7 hlocks

def v_x_m_input : List Cond := .code yX11_input cX11_input 3 (some .long) :: ([.fieldLink RX11 26 "SlopeRunner" "inputs" "LSlopeRunner$Inputs;"] ++ ((wsV RX11 149 RX2 yX2_valueOf v_i_valueOf) ++ ((wsS RX11 153 yX11_answer v_x_answer) ++ wsX110)))
theorem g_x_m_input_0 : GoodIn v_x_m_input (wsV RX11 149 RX2 yX2_valueOf v_i_valueOf) := goodIn_sub (fun w h => List.mem_cons_of_mem _ (List.mem_append_right _ (List.mem_append_left _ h))) (by decide +kernel)
theorem g_x_m_input_1 : GoodIn v_x_m_input (wsS RX11 153 yX11_answer v_x_answer) := goodIn_sub (fun w h => List.mem_cons_of_mem _ (List.mem_append_right _ (List.mem_append_right _ (List.mem_append_left _ h)))) (by decide +kernel)
set_option maxHeartbeats 4000000 in
set_option maxRecDepth 100000 in
theorem x_m_input (l : Launch) (D : va_G) (y : Nat → ClassId) (sz : Nat) (ad : Nat → Nat) (iv : Value) (pv : Value) (tv : Value) (kt : va_W) (σ : OS) (q a : Int32) (hxi : XI σ) : Met l yX11_input v_x_m_input ({ frames := 2, cells := 0, slots := 0, locals := 43 } : Room) (va_Pc [.ref (ad 0), .int q, .int a] (xPre D (xT y) (xwd y ad iv pv tv kt σ) sz)) (va_Ql (fun (r : Int64) (u : OS) => XI u ∧ ((u.1 22) = σ.1 22)) (fun (u : OS) => xB D (xT y) (va_A (xwd y ad iv pv tv kt σ) sz) (xwd y ad iv pv tv kt u)) (va_A (xwd y ad iv pv tv kt σ) sz)) 0 0 (va_A (xwd y ad iv pv tv kt σ) sz) := by
  refine x_metl (cc := cX11_input) (maxL := 3) (by decide) rfl (Nat.le_of_ble_eq_true rfl) ?_
  intro p e s m below meth c A H locs Q hx hb hml hown hts hr hlocks hmn hA hP hK hD hS ls hl hQ
  have hl : lv_has ls 3 [(0, .ref (ad 0)), (1, .int q), (2, .int a)] := hl
  have fl26 := hts (.fieldLink RX11 26 "SlopeRunner" "inputs" "LSlopeRunner$Inputs;") (List.mem_of_getElem? (i := 1) rfl)
  have inX11 : ∀ w ∈ wsX110, w ∈ v_x_m_input := (fun w h => List.mem_cons_of_mem _ (List.mem_append_right _ (List.mem_append_right _ (List.mem_append_right _ h))))
  obtain ⟨hxi0, hxi1, hxi2, hxi3, hxi4, hxi5, hxi6, hxi7, hxi8, hxi9, hxi10, hxi11, hxi12, hxi13, hxi14, hxi15, hxi16, hxi17, hxi18, hxi19, hxi20, hxi21, hxi22, hxi23, hxb102, hxb133, hxb134, hxb135, hxb153, hxb154, hxb155⟩ := hxi
  refine lv_aload_n hx hb dX11_input_0 rfl (lv_at hl 0 rfl) ?_
  refine va_get (D := D) (ci := 10) (v := .ref (ad 100)) (C := RX11) (T := TX11) (N := 11) hx hb hts inX11 hown hK hP 0 xwd_o0 rfl 2 (by decide) fl26 (fun _ h9 => h9) rfl dX11_input_1 ?_
  refine lv_iload_n hx hb dX11_input_4 rfl (lv_at hl 1 rfl) ?_
  have hPs : va_P D vwCl (inw y ad σ) H := x_suP hP [6, 29, 30, 31, 32] rfl
  have hDs : va_D A (inw y ad σ) := x_suD hD [6, 29, 30, 31, 32] rfl (by decide)
  refine x_calllT (b1 := fun (u : Unit) => (xwd y ad iv pv tv kt σ)) [6, 29, 30, 31, 32] [none, none, none, none, none, none, some 0, none, none, none, none, none, none, none, none, none, none, none, none, none, none, none, none, none, none, none, none, none, none, some 1, some 2, some 3, some 4, none, none, none, none, none, none, none, none, none, none, none, none, none, none, none, none, none, none, none] 5 (va_runV (As := [.int q]) (rest := []) ⟨hx, hb, hml, hown, hts⟩ (i_valueOf l D y H.size ad σ q (show 0 ≤ ((σ.1 105)).toInt from by first | omega | decide) (show ((σ.1 105)).toInt ≤ 8 from by first | omega | decide)) (cwV 1 hts g_x_m_input_0 rfl rfl rfl (by decide +kernel) ⟨Nat.le_of_ble_eq_true rfl, Nat.le_of_ble_eq_true rfl⟩) (x_preV (q := (RX2, TX2, 7)) hK hPs hDs (ci := 1) (q0 := 0) rfl inw_o0) rfl rfl hl.1 rfl (lv_room (Nat.le_of_ble_eq_true rfl)) dX11_input_5 ⟨Nat.le_of_ble_eq_true rfl, Nat.le_of_ble_eq_true rfl⟩) hP hD hS hA rfl (fun _ => xwd_in_inw (agr_refl _ _)) (fun _ => rfl) (fun _ => rfl) rfl (fun r_1 u H locs hw hP hD hS => ?_)
  try dsimp only at hw
  have hP : va_P D vwCl (xwd y ad iv pv tv kt σ) H := hP
  have hD : va_D A (xwd y ad iv pv tv kt σ) := hD
  refine lv_iload_n hx hb dX11_input_8 rfl (lv_at hl 2 rfl) ?_
  refine x_calllN (va_runS (As := [.long r_1, .int a]) (rest := []) ⟨hx, hb, hml, hown, hts⟩ (x_answer l D y H.size r_1 a) (cwS 2 hts g_x_m_input_1 rfl rfl rfl (by decide +kernel) ⟨Nat.le_of_ble_eq_true rfl, Nat.le_of_ble_eq_true rfl⟩) (x_preS hK (x_nilP D H) (x_nilD A)) rfl rfl hl.1 rfl (lv_room (Nat.le_of_ble_eq_true rfl)) dX11_input_9 ⟨Nat.le_of_ble_eq_true rfl, Nat.le_of_ble_eq_true rfl⟩) hP hD hS hA (fun r_2 u H locs hw hP hD hS => ?_)
  try dsimp only at hw
  exact x_lretW (v := r_2) (u := σ) hx hb hr hQ ⟨(show 0 ≤ ((σ.1 22)).toInt ∧ ((σ.1 22)).toInt ≤ 700 ∧ 0 ≤ ((σ.1 81)).toInt ∧ ((σ.1 81)).toInt ≤ 8 ∧ 0 ≤ ((σ.1 82)).toInt ∧ ((σ.1 82)).toInt ≤ 4 ∧ 0 ≤ ((σ.1 85)).toInt ∧ ((σ.1 85)).toInt ≤ 350 ∧ 0 ≤ ((σ.1 86)).toInt ∧ ((σ.1 86)).toInt ≤ 700 ∧ 0 ≤ ((σ.1 105)).toInt ∧ ((σ.1 105)).toInt ≤ 8 ∧ 0 ≤ ((σ.1 137)).toInt ∧ ((σ.1 137)).toInt ≤ 8 ∧ 0 ≤ ((σ.1 139)).toInt ∧ ((σ.1 139)).toInt ≤ 1359 ∧ 0 ≤ ((σ.1 141)).toInt ∧ ((σ.1 141)).toInt ≤ 12 ∧ 0 ≤ ((σ.1 183)).toInt ∧ ((σ.1 183)).toInt ≤ 8 ∧ 0 ≤ ((σ.1 138)).toInt ∧ 0 ≤ ((σ.1 106)).toInt ∧ ((σ.1 106)).toInt ≤ ((σ.1 107)).toInt ∧ ((σ.1 107)).toInt ≤ 40 ∧ bI ((σ.2.2.1 102)) 0 7 ∧ bI ((σ.2.2.1 133)) 0 1358 ∧ bI ((σ.2.2.1 134)) 0 1358 ∧ bI ((σ.2.2.1 135)) 0 1358 ∧ bI ((σ.2.2.1 153)) 0 1358 ∧ bI ((σ.2.2.1 154)) 0 1358 ∧ bI ((σ.2.2.1 155)) 0 1358 from ⟨by omega, by omega, by omega, by omega, by omega, by omega, by omega, by omega, by omega, by omega, by omega, by omega, by omega, by omega, by omega, by omega, by omega, by omega, by omega, by omega, by omega, by omega, by omega, by omega, hxb102, hxb133, hxb134, hxb135, hxb153, hxb154, hxb155⟩), rfl⟩ hP hD hK hS dX11_input_12 hlocks

def v_x_m_run : List Cond := .code yX11_run cX11_run 1 (some .int) :: ([.fieldLink RX11 61 "SlopeRunner" "latest" "LSlopeRunner$Tape;", .fieldLink RX11 71 "SlopeRunner" "current" "LSlopeRunner$Program;", .fieldLink RX11 26 "SlopeRunner" "inputs" "LSlopeRunner$Inputs;", .fieldLink RX11 157 "SlopeRunner$Inputs" "value" "[J", .fieldLink RX11 33 "SlopeRunner" "machine" "LSlopeRunner$Machine;"] ++ ((wsV RX11 161 RX8 yX8_begin v_ka_begin) ++ ((wsV RX11 164 RX4 yX4_play v_mc_play) ++ (wsX110 ++ wsX20))))
theorem g_x_m_run_0 : GoodIn v_x_m_run (wsV RX11 161 RX8 yX8_begin v_ka_begin) := goodIn_sub (fun w h => List.mem_cons_of_mem _ (List.mem_append_right _ (List.mem_append_left _ h))) (by decide +kernel)
theorem g_x_m_run_1 : GoodIn v_x_m_run (wsV RX11 164 RX4 yX4_play v_mc_play) := goodIn_sub (fun w h => List.mem_cons_of_mem _ (List.mem_append_right _ (List.mem_append_right _ (List.mem_append_left _ h)))) (by decide +kernel)
set_option maxHeartbeats 4000000 in
set_option maxRecDepth 100000 in
theorem x_m_run (l : Launch) (D : va_G) (y : Nat → ClassId) (sz : Nat) (ad : Nat → Nat) (iv : Value) (pv : Value) (tv : Value) (kt : va_W) (σ : OS) (hxi : XI σ) : Met l yX11_run v_x_m_run ({ frames := 7, cells := 0, slots := 0, locals := 194 } : Room) (va_Pc [.ref (ad 0)] (xPre D (xT y) (xwd y ad iv pv tv kt σ) sz)) (va_Qi (fun (r : Int32) (u : OS × Value × Value) => XI u.1 ∧ ((u.1.1 22) = σ.1 22)) (fun (u : OS × Value × Value) => xB D (xT y) (va_A (xwd y ad iv pv tv kt σ) sz) (xwd y ad iv u.2.1 u.2.2 kt u.1)) (va_A (xwd y ad iv pv tv kt σ) sz)) 0 0 (va_A (xwd y ad iv pv tv kt σ) sz) := by
  refine x_meti (cc := cX11_run) (maxL := 1) (by decide) rfl (Nat.le_of_ble_eq_true rfl) ?_
  intro p e s m below meth c A H locs Q hx hb hml hown hts hr hlocks hmn hA hP hK hD hS ls hl hQ
  have hl : lv_has ls 1 [(0, .ref (ad 0))] := hl
  have fl61 := hts (.fieldLink RX11 61 "SlopeRunner" "latest" "LSlopeRunner$Tape;") (List.mem_of_getElem? (i := 1) rfl)
  have inX11 : ∀ w ∈ wsX110, w ∈ v_x_m_run := (fun w h => List.mem_cons_of_mem _ (List.mem_append_right _ (List.mem_append_right _ (List.mem_append_right _ (List.mem_append_left _ h)))))
  have fl71 := hts (.fieldLink RX11 71 "SlopeRunner" "current" "LSlopeRunner$Program;") (List.mem_of_getElem? (i := 2) rfl)
  have fl26 := hts (.fieldLink RX11 26 "SlopeRunner" "inputs" "LSlopeRunner$Inputs;") (List.mem_of_getElem? (i := 3) rfl)
  have fl157 := hts (.fieldLink RX11 157 "SlopeRunner$Inputs" "value" "[J") (List.mem_of_getElem? (i := 4) rfl)
  have inX2 : ∀ w ∈ wsX20, w ∈ v_x_m_run := (fun w h => List.mem_cons_of_mem _ (List.mem_append_right _ (List.mem_append_right _ (List.mem_append_right _ (List.mem_append_right _ h)))))
  have fl33 := hts (.fieldLink RX11 33 "SlopeRunner" "machine" "LSlopeRunner$Machine;") (List.mem_of_getElem? (i := 5) rfl)
  obtain ⟨hxi0, hxi1, hxi2, hxi3, hxi4, hxi5, hxi6, hxi7, hxi8, hxi9, hxi10, hxi11, hxi12, hxi13, hxi14, hxi15, hxi16, hxi17, hxi18, hxi19, hxi20, hxi21, hxi22, hxi23, hxb102, hxb133, hxb134, hxb135, hxb153, hxb154, hxb155⟩ := hxi
  refine lv_aload_n hx hb dX11_run_0 rfl (lv_at hl 0 rfl) ?_
  refine va_get (D := D) (ci := 10) (v := .ref (ad 130)) (C := RX11) (T := TX11) (N := 11) hx hb hts inX11 hown hK hP 0 xwd_o0 rfl 7 (by decide) fl61 (fun _ h9 => h9) rfl dX11_run_1 ?_
  refine lv_aload_n hx hb dX11_run_4 rfl (lv_at hl 0 rfl) ?_
  refine va_get (D := D) (ci := 10) (v := .ref (ad 80)) (C := RX11) (T := TX11) (N := 11) hx hb hts inX11 hown hK hP 0 xwd_o0 rfl 9 (by decide) fl71 (fun _ h9 => h9) rfl dX11_run_5 ?_
  refine lv_aload_n hx hb dX11_run_8 rfl (lv_at hl 0 rfl) ?_
  refine va_get (D := D) (ci := 10) (v := .ref (ad 100)) (C := RX11) (T := TX11) (N := 11) hx hb hts inX11 hown hK hP 0 xwd_o0 rfl 2 (by decide) fl26 (fun _ h9 => h9) rfl dX11_run_9 ?_
  refine va_get (D := D) (ci := 1) (v := .ref (ad 101)) (C := RX2) (T := TX2) (N := 7) hx hb hts inX2 hown hK hP 6 xwd_o6 rfl 0 (by decide) fl157 (fun _ h9 => h9) rfl dX11_run_12 ?_
  have hPs : va_P D vwCl (tbw y ad σ) H := x_suP hP [8, 5, 6, 35, 36, 37, 38, 39, 23, 24, 25, 26, 27, 28, 29, 30, 31, 32] rfl
  have hDs : va_D A (tbw y ad σ) := x_suD hD [8, 5, 6, 35, 36, 37, 38, 39, 23, 24, 25, 26, 27, 28, 29, 30, 31, 32] rfl (by decide)
  refine x_callvT (b1 := fun (u : Int32 × Int32 × Int32 × Int32 × Int32 × Int32 × Int32 × Int64 × (Nat → Int64)) => (xwd y ad iv pv tv kt (tJ (sJ (sI (sI (sI (sI (sI (sI (sI σ 136 u.1) 137 u.2.1) 138 u.2.2.1) 139 u.2.2.2.1) 140 u.2.2.2.2.1) 141 u.2.2.2.2.2.1) 142 u.2.2.2.2.2.2.1) 143 u.2.2.2.2.2.2.2.1) 131 u.2.2.2.2.2.2.2.2))) [8, 5, 6, 35, 36, 37, 38, 39, 23, 24, 25, 26, 27, 28, 29, 30, 31, 32] [none, none, none, none, none, some 1, some 2, none, some 0, none, none, none, none, none, none, none, none, none, none, none, none, none, none, some 8, some 9, some 10, some 11, some 12, some 13, some 14, some 15, some 16, some 17, none, none, some 3, some 4, some 5, some 6, some 7, none, none, none, none, none, none, none, none, none, none, none, none] 18 (va_runV (As := [.ref (ad 80), .ref (ad 101)]) (rest := []) ⟨hx, hb, hml, hown, hts⟩ (ka_begin l D y H.size ad σ (show 0 ≤ ((σ.1 81)).toInt from by first | omega | decide) (show ((σ.1 81)).toInt ≤ 8 from by first | omega | decide) (show 0 ≤ ((σ.1 85)).toInt from by first | omega | decide) (show ((σ.1 85)).toInt ≤ 350 from by first | omega | decide)) (cwV 2 hts g_x_m_run_0 rfl rfl rfl (by decide +kernel) ⟨Nat.le_of_ble_eq_true rfl, Nat.le_of_ble_eq_true rfl⟩) (x_preV (q := (RX8, TX8, 13)) hK hPs hDs (ci := 7) (q0 := 0) rfl tbw_o0) rfl rfl hl.1 rfl (lv_room (Nat.le_of_ble_eq_true rfl)) dX11_run_15 ⟨Nat.le_of_ble_eq_true rfl, Nat.le_of_ble_eq_true rfl⟩) hP hD hS hA rfl (fun _ => xwd_in_tbw (agr_tJ (agr_sJ (agr_sI (agr_sI (agr_sI (agr_sI (agr_sI (agr_sI (agr_sI (agr_refl _ _) rfl) rfl) rfl) rfl) rfl) rfl) rfl) rfl) rfl)) (fun _ => rfl) (fun _ => rfl) rfl (fun u H locs hw hP hD hS => ?_)
  obtain ⟨n_1, n_2, n_3, n_4, n_5, n_6, n_7, j_8, f_9⟩ := u
  try dsimp only at hw
  have hP : va_P D vwCl (xwd y ad iv pv tv kt (tJ (sJ (sI (sI (sI (sI (sI (sI (sI σ 136 n_1) 137 n_2) 138 n_3) 139 n_4) 140 n_5) 141 n_6) 142 n_7) 143 j_8) 131 f_9)) H := hP
  have hD : va_D A (xwd y ad iv pv tv kt (tJ (sJ (sI (sI (sI (sI (sI (sI (sI σ 136 n_1) 137 n_2) 138 n_3) 139 n_4) 140 n_5) 141 n_6) 142 n_7) 143 j_8) 131 f_9)) := hD
  replace hw : n_2.toInt = ((σ.1 81)).toInt ∧ 0 ≤ n_3.toInt ∧ 0 ≤ n_4.toInt ∧ n_4.toInt ≤ 1359 ∧ n_6.toInt = 0 := hw
  obtain ⟨t_10, et_10⟩ : ∃ z9 : OS, z9 = (tJ (sJ (sI (sI (sI (sI (sI (sI (sI σ 136 n_1) 137 n_2) 138 n_3) 139 n_4) 140 n_5) 141 n_6) 142 n_7) 143 j_8) 131 f_9) := ⟨_, rfl⟩
  rw [← et_10] at hP hD
  have qt_10_22 : (t_10.1 22).toInt = (σ.1 22).toInt := by rw [et_10]; rfl
  have qt_10_81 : (t_10.1 81).toInt = (σ.1 81).toInt := by rw [et_10]; rfl
  have qt_10_82 : (t_10.1 82).toInt = (σ.1 82).toInt := by rw [et_10]; rfl
  have qt_10_85 : (t_10.1 85).toInt = (σ.1 85).toInt := by rw [et_10]; rfl
  have qt_10_86 : (t_10.1 86).toInt = (σ.1 86).toInt := by rw [et_10]; rfl
  have qt_10_105 : (t_10.1 105).toInt = (σ.1 105).toInt := by rw [et_10]; rfl
  have qt_10_137 : (t_10.1 137).toInt = n_2.toInt := by rw [et_10]; rfl
  have qt_10_139 : (t_10.1 139).toInt = n_4.toInt := by rw [et_10]; rfl
  have qt_10_141 : (t_10.1 141).toInt = n_6.toInt := by rw [et_10]; rfl
  have qt_10_183 : (t_10.1 183).toInt = (σ.1 183).toInt := by rw [et_10]; rfl
  have qt_10_138 : (t_10.1 138).toInt = n_3.toInt := by rw [et_10]; rfl
  have qt_10_106 : (t_10.1 106).toInt = (σ.1 106).toInt := by rw [et_10]; rfl
  have qt_10_107 : (t_10.1 107).toInt = (σ.1 107).toInt := by rw [et_10]; rfl
  have bt_10_102 : bI (t_10.2.2.1 102) 0 7 := by rw [et_10]; exact hxb102
  have bt_10_133 : bI (t_10.2.2.1 133) 0 1358 := by rw [et_10]; exact hxb133
  have bt_10_134 : bI (t_10.2.2.1 134) 0 1358 := by rw [et_10]; exact hxb134
  have bt_10_135 : bI (t_10.2.2.1 135) 0 1358 := by rw [et_10]; exact hxb135
  have bt_10_153 : bI (t_10.2.2.1 153) 0 1358 := by rw [et_10]; exact hxb153
  have bt_10_154 : bI (t_10.2.2.1 154) 0 1358 := by rw [et_10]; exact hxb154
  have bt_10_155 : bI (t_10.2.2.1 155) 0 1358 := by rw [et_10]; exact hxb155
  have hP : va_P D vwCl (xwd y ad iv pv tv kt t_10) H := hP
  have hD : va_D A (xwd y ad iv pv tv kt t_10) := hD
  obtain ⟨hbg1, hbg2, hbg3, hbg4, hbg5⟩ := hw
  refine lv_aload_n hx hb dX11_run_18 rfl (lv_at hl 0 rfl) ?_
  refine va_get (D := D) (ci := 10) (v := .ref (ad 110)) (C := RX11) (T := TX11) (N := 11) hx hb hts inX11 hown hK hP 0 xwd_o0 rfl 3 (by decide) fl33 (fun _ h9 => h9) rfl dX11_run_19 ?_
  refine lv_aload_n hx hb dX11_run_22 rfl (lv_at hl 0 rfl) ?_
  refine va_get (D := D) (ci := 10) (v := .ref (ad 80)) (C := RX11) (T := TX11) (N := 11) hx hb hts inX11 hown hK hP 0 xwd_o0 rfl 9 (by decide) fl71 (fun _ h9 => h9) rfl dX11_run_23 ?_
  refine lv_aload_n hx hb dX11_run_26 rfl (lv_at hl 0 rfl) ?_
  refine va_get (D := D) (ci := 10) (v := .ref (ad 130)) (C := RX11) (T := TX11) (N := 11) hx hb hts inX11 hown hK hP 0 xwd_o0 rfl 7 (by decide) fl61 (fun _ h9 => h9) rfl dX11_run_27 ?_
  have hPs : va_P D vwCl (mc0 y ad pv tv t_10) H := x_suP hP [7, 5, 8, 33, 34, 23, 24, 25, 26, 27, 28, 35, 36, 37, 38, 39] rfl
  have hDs : va_D A (mc0 y ad pv tv t_10) := x_suD hD [7, 5, 8, 33, 34, 23, 24, 25, 26, 27, 28, 35, 36, 37, 38, 39] rfl (by decide)
  refine x_calliT (b1 := fun (u : (Nat → Int32) × (Nat → Int32) × Int32 × Int32 × (Nat → Int32) × (Nat → Int32) × (Nat → Int32) × (Nat → Int64) × Int32 × Int32 × (Nat → Int32) × Int32 × Int32 × Int64 × Int32) => (xwd y ad iv (.ref (ad 80)) (.ref (ad 130)) kt (sI (sJ (sI (sI (tI (sI (sI (tJ (tI (tI (tI (sI (sI (tI (tI t_10 111 u.1) 112 u.2.1) 115 u.2.2.1) 116 u.2.2.2.1) 132 u.2.2.2.2.1) 133 u.2.2.2.2.2.1) 134 u.2.2.2.2.2.2.1) 131 u.2.2.2.2.2.2.2.1) 139 u.2.2.2.2.2.2.2.2.1) 140 u.2.2.2.2.2.2.2.2.2.1) 135 u.2.2.2.2.2.2.2.2.2.2.1) 141 u.2.2.2.2.2.2.2.2.2.2.2.1) 142 u.2.2.2.2.2.2.2.2.2.2.2.2.1) 143 u.2.2.2.2.2.2.2.2.2.2.2.2.2.1) 136 u.2.2.2.2.2.2.2.2.2.2.2.2.2.2))) [7, 5, 8, 33, 34, 23, 24, 25, 26, 27, 28, 35, 36, 37, 38, 39] [none, none, none, none, none, some 1, none, some 0, some 2, none, none, none, none, none, none, none, none, none, none, none, none, none, none, some 5, some 6, some 7, some 8, some 9, some 10, none, none, none, none, some 3, some 4, some 11, some 12, some 13, some 14, some 15, none, none, none, none, none, none, none, none, none, none, none, none] 16 (va_runV (As := [.ref (ad 80), .ref (ad 130)]) (rest := []) ⟨hx, hb, hml, hown, hts⟩ (mc_play l D y H.size ad pv tv t_10 (show 0 ≤ ((t_10.1 139)).toInt from by first | omega | decide) (show ((t_10.1 139)).toInt ≤ 1359 from by first | omega | decide) (show 0 ≤ ((t_10.1 141)).toInt from by first | omega | decide) (show ((t_10.1 141)).toInt ≤ 12 from by first | omega | decide) (show 0 ≤ ((t_10.1 137)).toInt from by first | omega | decide) (show ((t_10.1 137)).toInt ≤ 8 from by first | omega | decide) (show 0 ≤ ((t_10.1 86)).toInt from by first | omega | decide) (show ((t_10.1 86)).toInt ≤ 700 from by first | omega | decide) (show 0 ≤ ((t_10.1 82)).toInt from by first | omega | decide) (show ((t_10.1 82)).toInt ≤ 4 from by first | omega | decide) bt_10_133 bt_10_134 bt_10_135) (cwV 2 hts g_x_m_run_1 rfl rfl rfl (by decide +kernel) ⟨Nat.le_of_ble_eq_true rfl, Nat.le_of_ble_eq_true rfl⟩) (x_preV (q := (RX4, TX4, 6)) hK hPs hDs (ci := 3) (q0 := 0) rfl mc0_o0) rfl rfl hl.1 rfl (lv_room (Nat.le_of_ble_eq_true rfl)) dX11_run_30 ⟨Nat.le_of_ble_eq_true rfl, Nat.le_of_ble_eq_true rfl⟩) hP hD hS hA rfl (fun _ => xwd_in_mc0 (agr_sI (agr_sJ (agr_sI (agr_sI (agr_tI (agr_sI (agr_sI (agr_tJ (agr_tI (agr_tI (agr_tI (agr_sI (agr_sI (agr_tI (agr_tI (agr_refl _ _) rfl) rfl) rfl) rfl) rfl) rfl) rfl) rfl) rfl) rfl) rfl) rfl) rfl) rfl) rfl)) (fun _ => rfl) (fun _ => rfl) rfl (fun r_11 u H locs hw hP hD hS => ?_)
  obtain ⟨f_12, f_13, n_14, n_15, f_16, f_17, f_18, f_19, n_20, n_21, f_22, n_23, n_24, j_25, n_26⟩ := u
  try dsimp only at hw
  have hP : va_P D vwCl (xwd y ad iv (.ref (ad 80)) (.ref (ad 130)) kt (sI (sJ (sI (sI (tI (sI (sI (tJ (tI (tI (tI (sI (sI (tI (tI t_10 111 f_12) 112 f_13) 115 n_14) 116 n_15) 132 f_16) 133 f_17) 134 f_18) 131 f_19) 139 n_20) 140 n_21) 135 f_22) 141 n_23) 142 n_24) 143 j_25) 136 n_26)) H := hP
  have hD : va_D A (xwd y ad iv (.ref (ad 80)) (.ref (ad 130)) kt (sI (sJ (sI (sI (tI (sI (sI (tJ (tI (tI (tI (sI (sI (tI (tI t_10 111 f_12) 112 f_13) 115 n_14) 116 n_15) 132 f_16) 133 f_17) 134 f_18) 131 f_19) 139 n_20) 140 n_21) 135 f_22) 141 n_23) 142 n_24) 143 j_25) 136 n_26)) := hD
  replace hw : (0 ≤ n_14.toInt ∧ n_14.toInt ≤ 64 ∧ 0 ≤ n_20.toInt ∧ n_20.toInt ≤ 1359 ∧ 0 ≤ n_23.toInt ∧ n_23.toInt ≤ 12) ∧ bI f_17 0 1358 ∧ bI f_18 0 1358 ∧ bI f_22 0 1358 := hw
  obtain ⟨hw, hg_27, hg_28, hg_29⟩ := hw
  obtain ⟨t_30, et_30⟩ : ∃ z9 : OS, z9 = (sI (sJ (sI (sI (tI (sI (sI (tJ (tI (tI (tI (sI (sI (tI (tI t_10 111 f_12) 112 f_13) 115 n_14) 116 n_15) 132 f_16) 133 f_17) 134 f_18) 131 f_19) 139 n_20) 140 n_21) 135 f_22) 141 n_23) 142 n_24) 143 j_25) 136 n_26) := ⟨_, rfl⟩
  rw [← et_30] at hP hD
  have qt_30_22 : (t_30.1 22).toInt = (t_10.1 22).toInt := by rw [et_30]; rfl
  have qt_30_81 : (t_30.1 81).toInt = (t_10.1 81).toInt := by rw [et_30]; rfl
  have qt_30_82 : (t_30.1 82).toInt = (t_10.1 82).toInt := by rw [et_30]; rfl
  have qt_30_85 : (t_30.1 85).toInt = (t_10.1 85).toInt := by rw [et_30]; rfl
  have qt_30_86 : (t_30.1 86).toInt = (t_10.1 86).toInt := by rw [et_30]; rfl
  have qt_30_105 : (t_30.1 105).toInt = (t_10.1 105).toInt := by rw [et_30]; rfl
  have qt_30_137 : (t_30.1 137).toInt = (t_10.1 137).toInt := by rw [et_30]; rfl
  have qt_30_139 : (t_30.1 139).toInt = n_20.toInt := by rw [et_30]; rfl
  have qt_30_141 : (t_30.1 141).toInt = n_23.toInt := by rw [et_30]; rfl
  have qt_30_183 : (t_30.1 183).toInt = (t_10.1 183).toInt := by rw [et_30]; rfl
  have qt_30_138 : (t_30.1 138).toInt = (t_10.1 138).toInt := by rw [et_30]; rfl
  have qt_30_106 : (t_30.1 106).toInt = (t_10.1 106).toInt := by rw [et_30]; rfl
  have qt_30_107 : (t_30.1 107).toInt = (t_10.1 107).toInt := by rw [et_30]; rfl
  have bt_30_102 : bI (t_30.2.2.1 102) 0 7 := by rw [et_30]; exact bt_10_102
  have bt_30_133 : bI (t_30.2.2.1 133) 0 1358 := by rw [et_30]; exact hg_27
  have bt_30_134 : bI (t_30.2.2.1 134) 0 1358 := by rw [et_30]; exact hg_28
  have bt_30_135 : bI (t_30.2.2.1 135) 0 1358 := by rw [et_30]; exact hg_29
  have bt_30_153 : bI (t_30.2.2.1 153) 0 1358 := by rw [et_30]; exact bt_10_153
  have bt_30_154 : bI (t_30.2.2.1 154) 0 1358 := by rw [et_30]; exact bt_10_154
  have bt_30_155 : bI (t_30.2.2.1 155) 0 1358 := by rw [et_30]; exact bt_10_155
  have hP : va_P D vwCl (xwd y ad iv (.ref (ad 80)) (.ref (ad 130)) kt t_30) H := hP
  have hD : va_D A (xwd y ad iv (.ref (ad 80)) (.ref (ad 130)) kt t_30) := hD
  exact x_iretW (v := r_11) (u := (t_30, (.ref (ad 80)), (.ref (ad 130)))) hx hb hr hQ (by (try dsimp only); exact ⟨(show 0 ≤ ((t_30.1 22)).toInt ∧ ((t_30.1 22)).toInt ≤ 700 ∧ 0 ≤ ((t_30.1 81)).toInt ∧ ((t_30.1 81)).toInt ≤ 8 ∧ 0 ≤ ((t_30.1 82)).toInt ∧ ((t_30.1 82)).toInt ≤ 4 ∧ 0 ≤ ((t_30.1 85)).toInt ∧ ((t_30.1 85)).toInt ≤ 350 ∧ 0 ≤ ((t_30.1 86)).toInt ∧ ((t_30.1 86)).toInt ≤ 700 ∧ 0 ≤ ((t_30.1 105)).toInt ∧ ((t_30.1 105)).toInt ≤ 8 ∧ 0 ≤ ((t_30.1 137)).toInt ∧ ((t_30.1 137)).toInt ≤ 8 ∧ 0 ≤ ((t_30.1 139)).toInt ∧ ((t_30.1 139)).toInt ≤ 1359 ∧ 0 ≤ ((t_30.1 141)).toInt ∧ ((t_30.1 141)).toInt ≤ 12 ∧ 0 ≤ ((t_30.1 183)).toInt ∧ ((t_30.1 183)).toInt ≤ 8 ∧ 0 ≤ ((t_30.1 138)).toInt ∧ 0 ≤ ((t_30.1 106)).toInt ∧ ((t_30.1 106)).toInt ≤ ((t_30.1 107)).toInt ∧ ((t_30.1 107)).toInt ≤ 40 ∧ bI ((t_30.2.2.1 102)) 0 7 ∧ bI ((t_30.2.2.1 133)) 0 1358 ∧ bI ((t_30.2.2.1 134)) 0 1358 ∧ bI ((t_30.2.2.1 135)) 0 1358 ∧ bI ((t_30.2.2.1 153)) 0 1358 ∧ bI ((t_30.2.2.1 154)) 0 1358 ∧ bI ((t_30.2.2.1 155)) 0 1358 from ⟨by omega, by omega, by omega, by omega, by omega, by omega, by omega, by omega, by omega, by omega, by omega, by omega, by omega, by omega, by omega, by omega, by omega, by omega, by omega, by omega, by omega, by omega, by omega, by omega, bt_30_102, bt_30_133, bt_30_134, bt_30_135, bt_30_153, bt_30_154, bt_30_155⟩), (Int32.toInt_inj.mp (by omega))⟩) hP hD hK hS dX11_run_33 hlocks

def v_x_m_ran : List Cond := .code yX11_ran cX11_ran 2 (some .int) :: ([.fieldLink RX11 61 "SlopeRunner" "latest" "LSlopeRunner$Tape;", .fieldLink RX11 168 "SlopeRunner$Tape" "state" "I", .fieldLink RX11 171 "SlopeRunner$Tape" "steps" "I", .fieldLink RX11 174 "SlopeRunner$Tape" "size" "I", .fieldLink RX11 176 "SlopeRunner$Tape" "results" "I", .fieldLink RX11 179 "SlopeRunner$Tape" "edges" "I"] ++ (wsX110 ++ wsX80))
set_option maxHeartbeats 4000000 in
set_option maxRecDepth 100000 in
theorem x_m_ran (l : Launch) (D : va_G) (y : Nat → ClassId) (sz : Nat) (ad : Nat → Nat) (iv : Value) (pv : Value) (tv : Value) (kt : va_W) (σ : OS) (q : Int32) (hxi : XI σ) : Met l yX11_ran v_x_m_ran ({ frames := 0, cells := 0, slots := 0, locals := 0 } : Room) (va_Pc [.ref (ad 0), .int q] (xPre D (xT y) (xwd y ad iv pv tv kt σ) sz)) (va_Qi (fun (r : Int32) (u : OS) => XI u ∧ ((u.1 22) = σ.1 22)) (fun (u : OS) => xB D (xT y) (va_A (xwd y ad iv pv tv kt σ) sz) (xwd y ad iv pv tv kt u)) (va_A (xwd y ad iv pv tv kt σ) sz)) 0 0 (va_A (xwd y ad iv pv tv kt σ) sz) := by
  refine x_meti (cc := cX11_ran) (maxL := 2) (by decide) rfl (Nat.le_of_ble_eq_true rfl) ?_
  intro p e s m below meth c A H locs Q hx hb hml hown hts hr hlocks hmn hA hP hK hD hS ls hl hQ
  have hl : lv_has ls 2 [(0, .ref (ad 0)), (1, .int q)] := hl
  have fl61 := hts (.fieldLink RX11 61 "SlopeRunner" "latest" "LSlopeRunner$Tape;") (List.mem_of_getElem? (i := 1) rfl)
  have inX11 : ∀ w ∈ wsX110, w ∈ v_x_m_ran := (fun w h => List.mem_cons_of_mem _ (List.mem_append_right _ (List.mem_append_left _ h)))
  have fl168 := hts (.fieldLink RX11 168 "SlopeRunner$Tape" "state" "I") (List.mem_of_getElem? (i := 2) rfl)
  have inX8 : ∀ w ∈ wsX80, w ∈ v_x_m_ran := (fun w h => List.mem_cons_of_mem _ (List.mem_append_right _ (List.mem_append_right _ h)))
  have kk_m1 : ((-1) : Int32).toInt = -1 := rfl
  have fl171 := hts (.fieldLink RX11 171 "SlopeRunner$Tape" "steps" "I") (List.mem_of_getElem? (i := 3) rfl)
  have fl174 := hts (.fieldLink RX11 174 "SlopeRunner$Tape" "size" "I") (List.mem_of_getElem? (i := 4) rfl)
  have fl176 := hts (.fieldLink RX11 176 "SlopeRunner$Tape" "results" "I") (List.mem_of_getElem? (i := 5) rfl)
  have fl179 := hts (.fieldLink RX11 179 "SlopeRunner$Tape" "edges" "I") (List.mem_of_getElem? (i := 6) rfl)
  obtain ⟨hxi0, hxi1, hxi2, hxi3, hxi4, hxi5, hxi6, hxi7, hxi8, hxi9, hxi10, hxi11, hxi12, hxi13, hxi14, hxi15, hxi16, hxi17, hxi18, hxi19, hxi20, hxi21, hxi22, hxi23, hxb102, hxb133, hxb134, hxb135, hxb153, hxb154, hxb155⟩ := hxi
  refine lv_aload_n hx hb dX11_ran_0 rfl (lv_at hl 0 rfl) ?_
  refine va_get (D := D) (ci := 10) (v := .ref (ad 130)) (C := RX11) (T := TX11) (N := 11) hx hb hts inX11 hown hK hP 0 xwd_o0 rfl 7 (by decide) fl61 (fun _ h9 => h9) rfl dX11_ran_1 ?_
  refine va_get (D := D) (ci := 7) (v := .int (σ.1 136)) (C := RX8) (T := TX8) (N := 13) hx hb hts inX8 hown hK hP 8 xwd_o8 rfl 5 (by decide) fl168 (fun _ h9 => h9) rfl dX11_ran_4 ?_
  refine lv_iconst (v := (-1)) hx hb dX11_ran_7 (by decide) ?_
  refine lv_icmp_ne (tgt := 13) hx hb dX11_ran_8 (by decide) (fun c_1 => ?_) (fun c_1 => ?_)
  · have kc_1 : (σ.1 136).toInt ≠ (-1) := by have h9 := c_1; simp only [ge_iff_le, gt_iff_lt, x_lt, x_le, x_eq, ne_eq, Int32.not_lt, Int32.not_le] at h9; simp only [Int32.reduceToInt] at h9; omega
    refine lv_iload_n hx hb dX11_ran_13 rfl (lv_at hl 1 rfl) ?_
    rcases (show q = 0 ∨ q = 1 ∨ q = 2 ∨ q = 3 ∨ (q.toInt < 0 ∨ 3 < q.toInt) by simp only [x_eq, Int32.reduceToInt]; omega) with rfl | rfl | rfl | rfl | g_2
    · refine lv_tableIn (tgt := 44) hx hb dX11_ran_14 (by decide) (by decide) rfl (by decide) ?_
      refine lv_aload_n hx hb dX11_ran_44 rfl (lv_at hl 0 rfl) ?_
      refine va_get (D := D) (ci := 10) (v := .ref (ad 130)) (C := RX11) (T := TX11) (N := 11) hx hb hts inX11 hown hK hP 0 xwd_o0 rfl 7 (by decide) fl61 (fun _ h9 => h9) rfl dX11_ran_45 ?_
      refine va_get (D := D) (ci := 7) (v := .int (σ.1 140)) (C := RX8) (T := TX8) (N := 13) hx hb hts inX8 hown hK hP 8 xwd_o8 rfl 9 (by decide) fl171 (fun _ h9 => h9) rfl dX11_ran_48 ?_
      exact x_iretW (v := (σ.1 140)) (u := σ) hx hb hr hQ ⟨(show 0 ≤ ((σ.1 22)).toInt ∧ ((σ.1 22)).toInt ≤ 700 ∧ 0 ≤ ((σ.1 81)).toInt ∧ ((σ.1 81)).toInt ≤ 8 ∧ 0 ≤ ((σ.1 82)).toInt ∧ ((σ.1 82)).toInt ≤ 4 ∧ 0 ≤ ((σ.1 85)).toInt ∧ ((σ.1 85)).toInt ≤ 350 ∧ 0 ≤ ((σ.1 86)).toInt ∧ ((σ.1 86)).toInt ≤ 700 ∧ 0 ≤ ((σ.1 105)).toInt ∧ ((σ.1 105)).toInt ≤ 8 ∧ 0 ≤ ((σ.1 137)).toInt ∧ ((σ.1 137)).toInt ≤ 8 ∧ 0 ≤ ((σ.1 139)).toInt ∧ ((σ.1 139)).toInt ≤ 1359 ∧ 0 ≤ ((σ.1 141)).toInt ∧ ((σ.1 141)).toInt ≤ 12 ∧ 0 ≤ ((σ.1 183)).toInt ∧ ((σ.1 183)).toInt ≤ 8 ∧ 0 ≤ ((σ.1 138)).toInt ∧ 0 ≤ ((σ.1 106)).toInt ∧ ((σ.1 106)).toInt ≤ ((σ.1 107)).toInt ∧ ((σ.1 107)).toInt ≤ 40 ∧ bI ((σ.2.2.1 102)) 0 7 ∧ bI ((σ.2.2.1 133)) 0 1358 ∧ bI ((σ.2.2.1 134)) 0 1358 ∧ bI ((σ.2.2.1 135)) 0 1358 ∧ bI ((σ.2.2.1 153)) 0 1358 ∧ bI ((σ.2.2.1 154)) 0 1358 ∧ bI ((σ.2.2.1 155)) 0 1358 from ⟨by omega, by omega, by omega, by omega, by omega, by omega, by omega, by omega, by omega, by omega, by omega, by omega, by omega, by omega, by omega, by omega, by omega, by omega, by omega, by omega, by omega, by omega, by omega, by omega, hxb102, hxb133, hxb134, hxb135, hxb153, hxb154, hxb155⟩), rfl⟩ hP hD hK hS dX11_ran_51 hlocks
    · refine lv_tableIn (tgt := 52) hx hb dX11_ran_14 (by decide) (by decide) rfl (by decide) ?_
      refine lv_aload_n hx hb dX11_ran_52 rfl (lv_at hl 0 rfl) ?_
      refine va_get (D := D) (ci := 10) (v := .ref (ad 130)) (C := RX11) (T := TX11) (N := 11) hx hb hts inX11 hown hK hP 0 xwd_o0 rfl 7 (by decide) fl61 (fun _ h9 => h9) rfl dX11_ran_53 ?_
      refine va_get (D := D) (ci := 7) (v := .int (σ.1 139)) (C := RX8) (T := TX8) (N := 13) hx hb hts inX8 hown hK hP 8 xwd_o8 rfl 8 (by decide) fl174 (fun _ h9 => h9) rfl dX11_ran_56 ?_
      exact x_iretW (v := (σ.1 139)) (u := σ) hx hb hr hQ ⟨(show 0 ≤ ((σ.1 22)).toInt ∧ ((σ.1 22)).toInt ≤ 700 ∧ 0 ≤ ((σ.1 81)).toInt ∧ ((σ.1 81)).toInt ≤ 8 ∧ 0 ≤ ((σ.1 82)).toInt ∧ ((σ.1 82)).toInt ≤ 4 ∧ 0 ≤ ((σ.1 85)).toInt ∧ ((σ.1 85)).toInt ≤ 350 ∧ 0 ≤ ((σ.1 86)).toInt ∧ ((σ.1 86)).toInt ≤ 700 ∧ 0 ≤ ((σ.1 105)).toInt ∧ ((σ.1 105)).toInt ≤ 8 ∧ 0 ≤ ((σ.1 137)).toInt ∧ ((σ.1 137)).toInt ≤ 8 ∧ 0 ≤ ((σ.1 139)).toInt ∧ ((σ.1 139)).toInt ≤ 1359 ∧ 0 ≤ ((σ.1 141)).toInt ∧ ((σ.1 141)).toInt ≤ 12 ∧ 0 ≤ ((σ.1 183)).toInt ∧ ((σ.1 183)).toInt ≤ 8 ∧ 0 ≤ ((σ.1 138)).toInt ∧ 0 ≤ ((σ.1 106)).toInt ∧ ((σ.1 106)).toInt ≤ ((σ.1 107)).toInt ∧ ((σ.1 107)).toInt ≤ 40 ∧ bI ((σ.2.2.1 102)) 0 7 ∧ bI ((σ.2.2.1 133)) 0 1358 ∧ bI ((σ.2.2.1 134)) 0 1358 ∧ bI ((σ.2.2.1 135)) 0 1358 ∧ bI ((σ.2.2.1 153)) 0 1358 ∧ bI ((σ.2.2.1 154)) 0 1358 ∧ bI ((σ.2.2.1 155)) 0 1358 from ⟨by omega, by omega, by omega, by omega, by omega, by omega, by omega, by omega, by omega, by omega, by omega, by omega, by omega, by omega, by omega, by omega, by omega, by omega, by omega, by omega, by omega, by omega, by omega, by omega, hxb102, hxb133, hxb134, hxb135, hxb153, hxb154, hxb155⟩), rfl⟩ hP hD hK hS dX11_ran_59 hlocks
    · refine lv_tableIn (tgt := 60) hx hb dX11_ran_14 (by decide) (by decide) rfl (by decide) ?_
      refine lv_aload_n hx hb dX11_ran_60 rfl (lv_at hl 0 rfl) ?_
      refine va_get (D := D) (ci := 10) (v := .ref (ad 130)) (C := RX11) (T := TX11) (N := 11) hx hb hts inX11 hown hK hP 0 xwd_o0 rfl 7 (by decide) fl61 (fun _ h9 => h9) rfl dX11_ran_61 ?_
      refine va_get (D := D) (ci := 7) (v := .int (σ.1 141)) (C := RX8) (T := TX8) (N := 13) hx hb hts inX8 hown hK hP 8 xwd_o8 rfl 10 (by decide) fl176 (fun _ h9 => h9) rfl dX11_ran_64 ?_
      exact x_iretW (v := (σ.1 141)) (u := σ) hx hb hr hQ ⟨(show 0 ≤ ((σ.1 22)).toInt ∧ ((σ.1 22)).toInt ≤ 700 ∧ 0 ≤ ((σ.1 81)).toInt ∧ ((σ.1 81)).toInt ≤ 8 ∧ 0 ≤ ((σ.1 82)).toInt ∧ ((σ.1 82)).toInt ≤ 4 ∧ 0 ≤ ((σ.1 85)).toInt ∧ ((σ.1 85)).toInt ≤ 350 ∧ 0 ≤ ((σ.1 86)).toInt ∧ ((σ.1 86)).toInt ≤ 700 ∧ 0 ≤ ((σ.1 105)).toInt ∧ ((σ.1 105)).toInt ≤ 8 ∧ 0 ≤ ((σ.1 137)).toInt ∧ ((σ.1 137)).toInt ≤ 8 ∧ 0 ≤ ((σ.1 139)).toInt ∧ ((σ.1 139)).toInt ≤ 1359 ∧ 0 ≤ ((σ.1 141)).toInt ∧ ((σ.1 141)).toInt ≤ 12 ∧ 0 ≤ ((σ.1 183)).toInt ∧ ((σ.1 183)).toInt ≤ 8 ∧ 0 ≤ ((σ.1 138)).toInt ∧ 0 ≤ ((σ.1 106)).toInt ∧ ((σ.1 106)).toInt ≤ ((σ.1 107)).toInt ∧ ((σ.1 107)).toInt ≤ 40 ∧ bI ((σ.2.2.1 102)) 0 7 ∧ bI ((σ.2.2.1 133)) 0 1358 ∧ bI ((σ.2.2.1 134)) 0 1358 ∧ bI ((σ.2.2.1 135)) 0 1358 ∧ bI ((σ.2.2.1 153)) 0 1358 ∧ bI ((σ.2.2.1 154)) 0 1358 ∧ bI ((σ.2.2.1 155)) 0 1358 from ⟨by omega, by omega, by omega, by omega, by omega, by omega, by omega, by omega, by omega, by omega, by omega, by omega, by omega, by omega, by omega, by omega, by omega, by omega, by omega, by omega, by omega, by omega, by omega, by omega, hxb102, hxb133, hxb134, hxb135, hxb153, hxb154, hxb155⟩), rfl⟩ hP hD hK hS dX11_ran_67 hlocks
    · refine lv_tableIn (tgt := 68) hx hb dX11_ran_14 (by decide) (by decide) rfl (by decide) ?_
      refine lv_aload_n hx hb dX11_ran_68 rfl (lv_at hl 0 rfl) ?_
      refine va_get (D := D) (ci := 10) (v := .ref (ad 130)) (C := RX11) (T := TX11) (N := 11) hx hb hts inX11 hown hK hP 0 xwd_o0 rfl 7 (by decide) fl61 (fun _ h9 => h9) rfl dX11_ran_69 ?_
      refine va_get (D := D) (ci := 7) (v := .int (σ.1 142)) (C := RX8) (T := TX8) (N := 13) hx hb hts inX8 hown hK hP 8 xwd_o8 rfl 11 (by decide) fl179 (fun _ h9 => h9) rfl dX11_ran_72 ?_
      exact x_iretW (v := (σ.1 142)) (u := σ) hx hb hr hQ ⟨(show 0 ≤ ((σ.1 22)).toInt ∧ ((σ.1 22)).toInt ≤ 700 ∧ 0 ≤ ((σ.1 81)).toInt ∧ ((σ.1 81)).toInt ≤ 8 ∧ 0 ≤ ((σ.1 82)).toInt ∧ ((σ.1 82)).toInt ≤ 4 ∧ 0 ≤ ((σ.1 85)).toInt ∧ ((σ.1 85)).toInt ≤ 350 ∧ 0 ≤ ((σ.1 86)).toInt ∧ ((σ.1 86)).toInt ≤ 700 ∧ 0 ≤ ((σ.1 105)).toInt ∧ ((σ.1 105)).toInt ≤ 8 ∧ 0 ≤ ((σ.1 137)).toInt ∧ ((σ.1 137)).toInt ≤ 8 ∧ 0 ≤ ((σ.1 139)).toInt ∧ ((σ.1 139)).toInt ≤ 1359 ∧ 0 ≤ ((σ.1 141)).toInt ∧ ((σ.1 141)).toInt ≤ 12 ∧ 0 ≤ ((σ.1 183)).toInt ∧ ((σ.1 183)).toInt ≤ 8 ∧ 0 ≤ ((σ.1 138)).toInt ∧ 0 ≤ ((σ.1 106)).toInt ∧ ((σ.1 106)).toInt ≤ ((σ.1 107)).toInt ∧ ((σ.1 107)).toInt ≤ 40 ∧ bI ((σ.2.2.1 102)) 0 7 ∧ bI ((σ.2.2.1 133)) 0 1358 ∧ bI ((σ.2.2.1 134)) 0 1358 ∧ bI ((σ.2.2.1 135)) 0 1358 ∧ bI ((σ.2.2.1 153)) 0 1358 ∧ bI ((σ.2.2.1 154)) 0 1358 ∧ bI ((σ.2.2.1 155)) 0 1358 from ⟨by omega, by omega, by omega, by omega, by omega, by omega, by omega, by omega, by omega, by omega, by omega, by omega, by omega, by omega, by omega, by omega, by omega, by omega, by omega, by omega, by omega, by omega, by omega, by omega, hxb102, hxb133, hxb134, hxb135, hxb153, hxb154, hxb155⟩), rfl⟩ hP hD hK hS dX11_ran_75 hlocks
    · refine lv_tableOut (tgt := 76) hx hb dX11_ran_14 g_2 (by decide) ?_
      refine lv_iconst (v := (-1)) hx hb dX11_ran_76 (by decide) ?_
      exact x_iretW (v := (-1)) (u := σ) hx hb hr hQ ⟨(show 0 ≤ ((σ.1 22)).toInt ∧ ((σ.1 22)).toInt ≤ 700 ∧ 0 ≤ ((σ.1 81)).toInt ∧ ((σ.1 81)).toInt ≤ 8 ∧ 0 ≤ ((σ.1 82)).toInt ∧ ((σ.1 82)).toInt ≤ 4 ∧ 0 ≤ ((σ.1 85)).toInt ∧ ((σ.1 85)).toInt ≤ 350 ∧ 0 ≤ ((σ.1 86)).toInt ∧ ((σ.1 86)).toInt ≤ 700 ∧ 0 ≤ ((σ.1 105)).toInt ∧ ((σ.1 105)).toInt ≤ 8 ∧ 0 ≤ ((σ.1 137)).toInt ∧ ((σ.1 137)).toInt ≤ 8 ∧ 0 ≤ ((σ.1 139)).toInt ∧ ((σ.1 139)).toInt ≤ 1359 ∧ 0 ≤ ((σ.1 141)).toInt ∧ ((σ.1 141)).toInt ≤ 12 ∧ 0 ≤ ((σ.1 183)).toInt ∧ ((σ.1 183)).toInt ≤ 8 ∧ 0 ≤ ((σ.1 138)).toInt ∧ 0 ≤ ((σ.1 106)).toInt ∧ ((σ.1 106)).toInt ≤ ((σ.1 107)).toInt ∧ ((σ.1 107)).toInt ≤ 40 ∧ bI ((σ.2.2.1 102)) 0 7 ∧ bI ((σ.2.2.1 133)) 0 1358 ∧ bI ((σ.2.2.1 134)) 0 1358 ∧ bI ((σ.2.2.1 135)) 0 1358 ∧ bI ((σ.2.2.1 153)) 0 1358 ∧ bI ((σ.2.2.1 154)) 0 1358 ∧ bI ((σ.2.2.1 155)) 0 1358 from ⟨by omega, by omega, by omega, by omega, by omega, by omega, by omega, by omega, by omega, by omega, by omega, by omega, by omega, by omega, by omega, by omega, by omega, by omega, by omega, by omega, by omega, by omega, by omega, by omega, hxb102, hxb133, hxb134, hxb135, hxb153, hxb154, hxb155⟩), rfl⟩ hP hD hK hS dX11_ran_77 hlocks
  · have kc_1 : (σ.1 136).toInt = (-1) := by have h9 := c_1; simp only [ge_iff_le, gt_iff_lt, x_lt, x_le, x_eq, ne_eq, Int32.not_lt, Int32.not_le] at h9; simp only [Int32.reduceToInt] at h9; omega
    refine lv_iconst (v := (-1)) hx hb dX11_ran_11 (by decide) ?_
    exact x_iretW (v := (-1)) (u := σ) hx hb hr hQ ⟨(show 0 ≤ ((σ.1 22)).toInt ∧ ((σ.1 22)).toInt ≤ 700 ∧ 0 ≤ ((σ.1 81)).toInt ∧ ((σ.1 81)).toInt ≤ 8 ∧ 0 ≤ ((σ.1 82)).toInt ∧ ((σ.1 82)).toInt ≤ 4 ∧ 0 ≤ ((σ.1 85)).toInt ∧ ((σ.1 85)).toInt ≤ 350 ∧ 0 ≤ ((σ.1 86)).toInt ∧ ((σ.1 86)).toInt ≤ 700 ∧ 0 ≤ ((σ.1 105)).toInt ∧ ((σ.1 105)).toInt ≤ 8 ∧ 0 ≤ ((σ.1 137)).toInt ∧ ((σ.1 137)).toInt ≤ 8 ∧ 0 ≤ ((σ.1 139)).toInt ∧ ((σ.1 139)).toInt ≤ 1359 ∧ 0 ≤ ((σ.1 141)).toInt ∧ ((σ.1 141)).toInt ≤ 12 ∧ 0 ≤ ((σ.1 183)).toInt ∧ ((σ.1 183)).toInt ≤ 8 ∧ 0 ≤ ((σ.1 138)).toInt ∧ 0 ≤ ((σ.1 106)).toInt ∧ ((σ.1 106)).toInt ≤ ((σ.1 107)).toInt ∧ ((σ.1 107)).toInt ≤ 40 ∧ bI ((σ.2.2.1 102)) 0 7 ∧ bI ((σ.2.2.1 133)) 0 1358 ∧ bI ((σ.2.2.1 134)) 0 1358 ∧ bI ((σ.2.2.1 135)) 0 1358 ∧ bI ((σ.2.2.1 153)) 0 1358 ∧ bI ((σ.2.2.1 154)) 0 1358 ∧ bI ((σ.2.2.1 155)) 0 1358 from ⟨by omega, by omega, by omega, by omega, by omega, by omega, by omega, by omega, by omega, by omega, by omega, by omega, by omega, by omega, by omega, by omega, by omega, by omega, by omega, by omega, by omega, by omega, by omega, by omega, hxb102, hxb133, hxb134, hxb135, hxb153, hxb154, hxb155⟩), rfl⟩ hP hD hK hS dX11_ran_12 hlocks

def v_x_m_result : List Cond := .code yX11_result cX11_result 3 (some .long) :: ([.fieldLink RX11 61 "SlopeRunner" "latest" "LSlopeRunner$Tape;"] ++ ((wsV RX11 182 RX8 yX8_resultValue v_ka_resultValue) ++ ((wsS RX11 153 yX11_answer v_x_answer) ++ wsX110)))
theorem g_x_m_result_0 : GoodIn v_x_m_result (wsV RX11 182 RX8 yX8_resultValue v_ka_resultValue) := goodIn_sub (fun w h => List.mem_cons_of_mem _ (List.mem_append_right _ (List.mem_append_left _ h))) (by decide +kernel)
theorem g_x_m_result_1 : GoodIn v_x_m_result (wsS RX11 153 yX11_answer v_x_answer) := goodIn_sub (fun w h => List.mem_cons_of_mem _ (List.mem_append_right _ (List.mem_append_right _ (List.mem_append_left _ h)))) (by decide +kernel)
set_option maxHeartbeats 4000000 in
set_option maxRecDepth 100000 in
theorem x_m_result (l : Launch) (D : va_G) (y : Nat → ClassId) (sz : Nat) (ad : Nat → Nat) (iv : Value) (pv : Value) (tv : Value) (kt : va_W) (σ : OS) (q a : Int32) (hxi : XI σ) : Met l yX11_result v_x_m_result ({ frames := 3, cells := 0, slots := 0, locals := 63 } : Room) (va_Pc [.ref (ad 0), .int q, .int a] (xPre D (xT y) (xwd y ad iv pv tv kt σ) sz)) (va_Ql (fun (r : Int64) (u : OS) => XI u ∧ ((u.1 22) = σ.1 22)) (fun (u : OS) => xB D (xT y) (va_A (xwd y ad iv pv tv kt σ) sz) (xwd y ad iv pv tv kt u)) (va_A (xwd y ad iv pv tv kt σ) sz)) 0 0 (va_A (xwd y ad iv pv tv kt σ) sz) := by
  refine x_metl (cc := cX11_result) (maxL := 3) (by decide) rfl (Nat.le_of_ble_eq_true rfl) ?_
  intro p e s m below meth c A H locs Q hx hb hml hown hts hr hlocks hmn hA hP hK hD hS ls hl hQ
  have hl : lv_has ls 3 [(0, .ref (ad 0)), (1, .int q), (2, .int a)] := hl
  have fl61 := hts (.fieldLink RX11 61 "SlopeRunner" "latest" "LSlopeRunner$Tape;") (List.mem_of_getElem? (i := 1) rfl)
  have inX11 : ∀ w ∈ wsX110, w ∈ v_x_m_result := (fun w h => List.mem_cons_of_mem _ (List.mem_append_right _ (List.mem_append_right _ (List.mem_append_right _ h))))
  obtain ⟨hxi0, hxi1, hxi2, hxi3, hxi4, hxi5, hxi6, hxi7, hxi8, hxi9, hxi10, hxi11, hxi12, hxi13, hxi14, hxi15, hxi16, hxi17, hxi18, hxi19, hxi20, hxi21, hxi22, hxi23, hxb102, hxb133, hxb134, hxb135, hxb153, hxb154, hxb155⟩ := hxi
  refine lv_aload_n hx hb dX11_result_0 rfl (lv_at hl 0 rfl) ?_
  refine va_get (D := D) (ci := 10) (v := .ref (ad 130)) (C := RX11) (T := TX11) (N := 11) hx hb hts inX11 hown hK hP 0 xwd_o0 rfl 7 (by decide) fl61 (fun _ h9 => h9) rfl dX11_result_1 ?_
  refine lv_iload_n hx hb dX11_result_4 rfl (lv_at hl 1 rfl) ?_
  have hPs : va_P D vwCl (tpw y ad σ) H := x_suP hP [8, 35, 36, 37, 38, 39] rfl
  have hDs : va_D A (tpw y ad σ) := x_suD hD [8, 35, 36, 37, 38, 39] rfl (by decide)
  refine x_calllT (b1 := fun (u : Unit) => (xwd y ad iv pv tv kt σ)) [8, 35, 36, 37, 38, 39] [none, none, none, none, none, none, none, none, some 0, none, none, none, none, none, none, none, none, none, none, none, none, none, none, none, none, none, none, none, none, none, none, none, none, none, none, some 1, some 2, some 3, some 4, some 5, none, none, none, none, none, none, none, none, none, none, none, none] 6 (va_runV (As := [.int q]) (rest := []) ⟨hx, hb, hml, hown, hts⟩ (ka_resultValue l D y H.size ad σ q (show 0 ≤ ((σ.1 139)).toInt from by first | omega | decide) (show ((σ.1 139)).toInt ≤ 1359 from by first | omega | decide) (show 0 ≤ ((σ.1 141)).toInt from by first | omega | decide) (show ((σ.1 141)).toInt ≤ 12 from by first | omega | decide)) (cwV 1 hts g_x_m_result_0 rfl rfl rfl (by decide +kernel) ⟨Nat.le_of_ble_eq_true rfl, Nat.le_of_ble_eq_true rfl⟩) (x_preV (q := (RX8, TX8, 13)) hK hPs hDs (ci := 7) (q0 := 0) rfl tpw_o0) rfl rfl hl.1 rfl (lv_room (Nat.le_of_ble_eq_true rfl)) dX11_result_5 ⟨Nat.le_of_ble_eq_true rfl, Nat.le_of_ble_eq_true rfl⟩) hP hD hS hA rfl (fun _ => xwd_in_tpw (agr_refl _ _)) (fun _ => rfl) (fun _ => rfl) rfl (fun r_1 u H locs hw hP hD hS => ?_)
  try dsimp only at hw
  have hP : va_P D vwCl (xwd y ad iv pv tv kt σ) H := hP
  have hD : va_D A (xwd y ad iv pv tv kt σ) := hD
  refine lv_iload_n hx hb dX11_result_8 rfl (lv_at hl 2 rfl) ?_
  refine x_calllN (va_runS (As := [.long r_1, .int a]) (rest := []) ⟨hx, hb, hml, hown, hts⟩ (x_answer l D y H.size r_1 a) (cwS 2 hts g_x_m_result_1 rfl rfl rfl (by decide +kernel) ⟨Nat.le_of_ble_eq_true rfl, Nat.le_of_ble_eq_true rfl⟩) (x_preS hK (x_nilP D H) (x_nilD A)) rfl rfl hl.1 rfl (lv_room (Nat.le_of_ble_eq_true rfl)) dX11_result_9 ⟨Nat.le_of_ble_eq_true rfl, Nat.le_of_ble_eq_true rfl⟩) hP hD hS hA (fun r_2 u H locs hw hP hD hS => ?_)
  try dsimp only at hw
  exact x_lretW (v := r_2) (u := σ) hx hb hr hQ ⟨(show 0 ≤ ((σ.1 22)).toInt ∧ ((σ.1 22)).toInt ≤ 700 ∧ 0 ≤ ((σ.1 81)).toInt ∧ ((σ.1 81)).toInt ≤ 8 ∧ 0 ≤ ((σ.1 82)).toInt ∧ ((σ.1 82)).toInt ≤ 4 ∧ 0 ≤ ((σ.1 85)).toInt ∧ ((σ.1 85)).toInt ≤ 350 ∧ 0 ≤ ((σ.1 86)).toInt ∧ ((σ.1 86)).toInt ≤ 700 ∧ 0 ≤ ((σ.1 105)).toInt ∧ ((σ.1 105)).toInt ≤ 8 ∧ 0 ≤ ((σ.1 137)).toInt ∧ ((σ.1 137)).toInt ≤ 8 ∧ 0 ≤ ((σ.1 139)).toInt ∧ ((σ.1 139)).toInt ≤ 1359 ∧ 0 ≤ ((σ.1 141)).toInt ∧ ((σ.1 141)).toInt ≤ 12 ∧ 0 ≤ ((σ.1 183)).toInt ∧ ((σ.1 183)).toInt ≤ 8 ∧ 0 ≤ ((σ.1 138)).toInt ∧ 0 ≤ ((σ.1 106)).toInt ∧ ((σ.1 106)).toInt ≤ ((σ.1 107)).toInt ∧ ((σ.1 107)).toInt ≤ 40 ∧ bI ((σ.2.2.1 102)) 0 7 ∧ bI ((σ.2.2.1 133)) 0 1358 ∧ bI ((σ.2.2.1 134)) 0 1358 ∧ bI ((σ.2.2.1 135)) 0 1358 ∧ bI ((σ.2.2.1 153)) 0 1358 ∧ bI ((σ.2.2.1 154)) 0 1358 ∧ bI ((σ.2.2.1 155)) 0 1358 from ⟨by omega, by omega, by omega, by omega, by omega, by omega, by omega, by omega, by omega, by omega, by omega, by omega, by omega, by omega, by omega, by omega, by omega, by omega, by omega, by omega, by omega, by omega, by omega, by omega, hxb102, hxb133, hxb134, hxb135, hxb153, hxb154, hxb155⟩), rfl⟩ hP hD hK hS dX11_result_12 hlocks

def v_x_m_near : List Cond := .code yX11_near cX11_near 2 (some .long) :: ([.fieldLink RX11 61 "SlopeRunner" "latest" "LSlopeRunner$Tape;", .fieldLink RX11 185 "SlopeRunner$Tape" "nearest" "J"] ++ ((wsS RX11 153 yX11_answer v_x_answer) ++ (wsX110 ++ wsX80)))
theorem g_x_m_near_0 : GoodIn v_x_m_near (wsS RX11 153 yX11_answer v_x_answer) := goodIn_sub (fun w h => List.mem_cons_of_mem _ (List.mem_append_right _ (List.mem_append_left _ h))) (by decide +kernel)
set_option maxHeartbeats 4000000 in
set_option maxRecDepth 100000 in
theorem x_m_near (l : Launch) (D : va_G) (y : Nat → ClassId) (sz : Nat) (ad : Nat → Nat) (iv : Value) (pv : Value) (tv : Value) (kt : va_W) (σ : OS) (a : Int32) (hxi : XI σ) : Met l yX11_near v_x_m_near ({ frames := 2, cells := 0, slots := 0, locals := 43 } : Room) (va_Pc [.ref (ad 0), .int a] (xPre D (xT y) (xwd y ad iv pv tv kt σ) sz)) (va_Ql (fun (r : Int64) (u : OS) => XI u ∧ ((u.1 22) = σ.1 22)) (fun (u : OS) => xB D (xT y) (va_A (xwd y ad iv pv tv kt σ) sz) (xwd y ad iv pv tv kt u)) (va_A (xwd y ad iv pv tv kt σ) sz)) 0 0 (va_A (xwd y ad iv pv tv kt σ) sz) := by
  refine x_metl (cc := cX11_near) (maxL := 2) (by decide) rfl (Nat.le_of_ble_eq_true rfl) ?_
  intro p e s m below meth c A H locs Q hx hb hml hown hts hr hlocks hmn hA hP hK hD hS ls hl hQ
  have hl : lv_has ls 2 [(0, .ref (ad 0)), (1, .int a)] := hl
  have fl61 := hts (.fieldLink RX11 61 "SlopeRunner" "latest" "LSlopeRunner$Tape;") (List.mem_of_getElem? (i := 1) rfl)
  have inX11 : ∀ w ∈ wsX110, w ∈ v_x_m_near := (fun w h => List.mem_cons_of_mem _ (List.mem_append_right _ (List.mem_append_right _ (List.mem_append_left _ h))))
  have fl185 := hts (.fieldLink RX11 185 "SlopeRunner$Tape" "nearest" "J") (List.mem_of_getElem? (i := 2) rfl)
  have inX8 : ∀ w ∈ wsX80, w ∈ v_x_m_near := (fun w h => List.mem_cons_of_mem _ (List.mem_append_right _ (List.mem_append_right _ (List.mem_append_right _ h))))
  obtain ⟨hxi0, hxi1, hxi2, hxi3, hxi4, hxi5, hxi6, hxi7, hxi8, hxi9, hxi10, hxi11, hxi12, hxi13, hxi14, hxi15, hxi16, hxi17, hxi18, hxi19, hxi20, hxi21, hxi22, hxi23, hxb102, hxb133, hxb134, hxb135, hxb153, hxb154, hxb155⟩ := hxi
  refine lv_aload_n hx hb dX11_near_0 rfl (lv_at hl 0 rfl) ?_
  refine va_get (D := D) (ci := 10) (v := .ref (ad 130)) (C := RX11) (T := TX11) (N := 11) hx hb hts inX11 hown hK hP 0 xwd_o0 rfl 7 (by decide) fl61 (fun _ h9 => h9) rfl dX11_near_1 ?_
  refine va_get (D := D) (ci := 7) (v := .long (σ.2.1 143)) (C := RX8) (T := TX8) (N := 13) hx hb hts inX8 hown hK hP 8 xwd_o8 rfl 12 (by decide) fl185 (fun _ h9 => h9) rfl dX11_near_4 ?_
  refine lv_iload_n hx hb dX11_near_7 rfl (lv_at hl 1 rfl) ?_
  refine x_calllN (va_runS (As := [.long (σ.2.1 143), .int a]) (rest := []) ⟨hx, hb, hml, hown, hts⟩ (x_answer l D y H.size (σ.2.1 143) a) (cwS 2 hts g_x_m_near_0 rfl rfl rfl (by decide +kernel) ⟨Nat.le_of_ble_eq_true rfl, Nat.le_of_ble_eq_true rfl⟩) (x_preS hK (x_nilP D H) (x_nilD A)) rfl rfl hl.1 rfl (lv_room (Nat.le_of_ble_eq_true rfl)) dX11_near_8 ⟨Nat.le_of_ble_eq_true rfl, Nat.le_of_ble_eq_true rfl⟩) hP hD hS hA (fun r_1 u H locs hw hP hD hS => ?_)
  try dsimp only at hw
  exact x_lretW (v := r_1) (u := σ) hx hb hr hQ ⟨(show 0 ≤ ((σ.1 22)).toInt ∧ ((σ.1 22)).toInt ≤ 700 ∧ 0 ≤ ((σ.1 81)).toInt ∧ ((σ.1 81)).toInt ≤ 8 ∧ 0 ≤ ((σ.1 82)).toInt ∧ ((σ.1 82)).toInt ≤ 4 ∧ 0 ≤ ((σ.1 85)).toInt ∧ ((σ.1 85)).toInt ≤ 350 ∧ 0 ≤ ((σ.1 86)).toInt ∧ ((σ.1 86)).toInt ≤ 700 ∧ 0 ≤ ((σ.1 105)).toInt ∧ ((σ.1 105)).toInt ≤ 8 ∧ 0 ≤ ((σ.1 137)).toInt ∧ ((σ.1 137)).toInt ≤ 8 ∧ 0 ≤ ((σ.1 139)).toInt ∧ ((σ.1 139)).toInt ≤ 1359 ∧ 0 ≤ ((σ.1 141)).toInt ∧ ((σ.1 141)).toInt ≤ 12 ∧ 0 ≤ ((σ.1 183)).toInt ∧ ((σ.1 183)).toInt ≤ 8 ∧ 0 ≤ ((σ.1 138)).toInt ∧ 0 ≤ ((σ.1 106)).toInt ∧ ((σ.1 106)).toInt ≤ ((σ.1 107)).toInt ∧ ((σ.1 107)).toInt ≤ 40 ∧ bI ((σ.2.2.1 102)) 0 7 ∧ bI ((σ.2.2.1 133)) 0 1358 ∧ bI ((σ.2.2.1 134)) 0 1358 ∧ bI ((σ.2.2.1 135)) 0 1358 ∧ bI ((σ.2.2.1 153)) 0 1358 ∧ bI ((σ.2.2.1 154)) 0 1358 ∧ bI ((σ.2.2.1 155)) 0 1358 from ⟨by omega, by omega, by omega, by omega, by omega, by omega, by omega, by omega, by omega, by omega, by omega, by omega, by omega, by omega, by omega, by omega, by omega, by omega, by omega, by omega, by omega, by omega, by omega, by omega, hxb102, hxb133, hxb134, hxb135, hxb153, hxb154, hxb155⟩), rfl⟩ hP hD hK hS dX11_near_11 hlocks

def v_x_m_forward : List Cond := .code yX11_forward cX11_forward 4 (some .long) :: ([.fieldLink RX11 61 "SlopeRunner" "latest" "LSlopeRunner$Tape;", .fieldLink RX11 40 "SlopeRunner" "slopes" "LSlopeRunner$Slopes;", .constantLong RX11 192 (-2000000000)] ++ ((wsV RX11 189 RX8 yX8_hasBoth v_ka_hasBoth) ++ ((wsV RX11 194 RX7 yX7_slopeForward v_s_slopeForward) ++ ((wsS RX11 153 yX11_answer v_x_answer) ++ wsX110))))
theorem g_x_m_forward_0 : GoodIn v_x_m_forward (wsV RX11 189 RX8 yX8_hasBoth v_ka_hasBoth) := goodIn_sub (fun w h => List.mem_cons_of_mem _ (List.mem_append_right _ (List.mem_append_left _ h))) (by decide +kernel)
theorem g_x_m_forward_1 : GoodIn v_x_m_forward (wsV RX11 194 RX7 yX7_slopeForward v_s_slopeForward) := goodIn_sub (fun w h => List.mem_cons_of_mem _ (List.mem_append_right _ (List.mem_append_right _ (List.mem_append_left _ h)))) (by decide +kernel)
theorem g_x_m_forward_2 : GoodIn v_x_m_forward (wsS RX11 153 yX11_answer v_x_answer) := goodIn_sub (fun w h => List.mem_cons_of_mem _ (List.mem_append_right _ (List.mem_append_right _ (List.mem_append_right _ (List.mem_append_left _ h))))) (by decide +kernel)
set_option maxHeartbeats 4000000 in
set_option maxRecDepth 100000 in
theorem x_m_forward (l : Launch) (D : va_G) (y : Nat → ClassId) (sz : Nat) (ad : Nat → Nat) (iv : Value) (pv : Value) (tv : Value) (kt : va_W) (σ : OS) (q i a : Int32) (hxi : XI σ) : Met l yX11_forward v_x_m_forward ({ frames := 6, cells := 0, slots := 0, locals := 173 } : Room) (va_Pc [.ref (ad 0), .int q, .int i, .int a] (xPre D (xT y) (xwd y ad iv pv tv kt σ) sz)) (va_Ql (fun (r : Int64) (u : OS) => XI u ∧ ((u.1 22) = σ.1 22)) (fun (u : OS) => xB D (xT y) (va_A (xwd y ad iv pv tv kt σ) sz) (xwd y ad iv pv tv kt u)) (va_A (xwd y ad iv pv tv kt σ) sz)) 0 0 (va_A (xwd y ad iv pv tv kt σ) sz) := by
  refine x_metl (cc := cX11_forward) (maxL := 4) (by decide) rfl (Nat.le_of_ble_eq_true rfl) ?_
  intro p e s m below meth c A H locs Q hx hb hml hown hts hr hlocks hmn hA hP hK hD hS ls hl hQ
  have hl : lv_has ls 4 [(0, .ref (ad 0)), (1, .int q), (2, .int i), (3, .int a)] := hl
  have fl61 := hts (.fieldLink RX11 61 "SlopeRunner" "latest" "LSlopeRunner$Tape;") (List.mem_of_getElem? (i := 1) rfl)
  have inX11 : ∀ w ∈ wsX110, w ∈ v_x_m_forward := (fun w h => List.mem_cons_of_mem _ (List.mem_append_right _ (List.mem_append_right _ (List.mem_append_right _ (List.mem_append_right _ h)))))
  have kk_0 : (0 : Int32).toInt = 0 := rfl
  have fl40 := hts (.fieldLink RX11 40 "SlopeRunner" "slopes" "LSlopeRunner$Slopes;") (List.mem_of_getElem? (i := 2) rfl)
  obtain ⟨hxi0, hxi1, hxi2, hxi3, hxi4, hxi5, hxi6, hxi7, hxi8, hxi9, hxi10, hxi11, hxi12, hxi13, hxi14, hxi15, hxi16, hxi17, hxi18, hxi19, hxi20, hxi21, hxi22, hxi23, hxb102, hxb133, hxb134, hxb135, hxb153, hxb154, hxb155⟩ := hxi
  refine lv_aload_n hx hb dX11_forward_0 rfl (lv_at hl 0 rfl) ?_
  refine va_get (D := D) (ci := 10) (v := .ref (ad 130)) (C := RX11) (T := TX11) (N := 11) hx hb hts inX11 hown hK hP 0 xwd_o0 rfl 7 (by decide) fl61 (fun _ h9 => h9) rfl dX11_forward_1 ?_
  refine lv_iload_n hx hb dX11_forward_4 rfl (lv_at hl 1 rfl) ?_
  refine lv_iload_n hx hb dX11_forward_5 rfl (lv_at hl 2 rfl) ?_
  have hPs : va_P D vwCl (tpw y ad σ) H := x_suP hP [8, 35, 36, 37, 38, 39] rfl
  have hDs : va_D A (tpw y ad σ) := x_suD hD [8, 35, 36, 37, 38, 39] rfl (by decide)
  refine x_calliT (b1 := fun (u : Unit) => (xwd y ad iv pv tv kt σ)) [8, 35, 36, 37, 38, 39] [none, none, none, none, none, none, none, none, some 0, none, none, none, none, none, none, none, none, none, none, none, none, none, none, none, none, none, none, none, none, none, none, none, none, none, none, some 1, some 2, some 3, some 4, some 5, none, none, none, none, none, none, none, none, none, none, none, none] 6 (va_runV (As := [.int q, .int i]) (rest := []) ⟨hx, hb, hml, hown, hts⟩ (ka_hasBoth l D y H.size ad σ q i) (cwV 2 hts g_x_m_forward_0 rfl rfl rfl (by decide +kernel) ⟨Nat.le_of_ble_eq_true rfl, Nat.le_of_ble_eq_true rfl⟩) (x_preV (q := (RX8, TX8, 13)) hK hPs hDs (ci := 7) (q0 := 0) rfl tpw_o0) rfl rfl hl.1 rfl (lv_room (Nat.le_of_ble_eq_true rfl)) dX11_forward_6 ⟨Nat.le_of_ble_eq_true rfl, Nat.le_of_ble_eq_true rfl⟩) hP hD hS hA rfl (fun _ => xwd_in_tpw (agr_refl _ _)) (fun _ => rfl) (fun _ => rfl) rfl (fun r_1 u H locs hw hP hD hS => ?_)
  try dsimp only at hw
  have hP : va_P D vwCl (xwd y ad iv pv tv kt σ) H := hP
  have hD : va_D A (xwd y ad iv pv tv kt σ) := hD
  replace hw : (r_1.toInt = 1 ∧ 0 ≤ q.toInt ∧ q.toInt < ((σ.1 141)).toInt ∧ 0 ≤ i.toInt ∧ i.toInt < ((σ.1 137)).toInt) ∨ r_1.toInt = 0 := hw
  have hhb9 := hw
  refine lv_if_ne (tgt := 16) hx hb dX11_forward_9 (by decide) (fun c_2 => ?_) (fun c_2 => ?_)
  · have kc_2 : r_1.toInt ≠ 0 := by have h9 := c_2; simp only [ge_iff_le, gt_iff_lt, x_lt, x_le, x_eq, ne_eq, Int32.not_lt, Int32.not_le] at h9; simp only [Int32.reduceToInt] at h9; omega
    refine lv_aload_n hx hb dX11_forward_16 rfl (lv_at hl 0 rfl) ?_
    refine va_get (D := D) (ci := 10) (v := .ref (ad 170)) (C := RX11) (T := TX11) (N := 11) hx hb hts inX11 hown hK hP 0 xwd_o0 rfl 4 (by decide) fl40 (fun _ h9 => h9) rfl dX11_forward_17 ?_
    refine lv_aload_n hx hb dX11_forward_20 rfl (lv_at hl 0 rfl) ?_
    refine va_get (D := D) (ci := 10) (v := .ref (ad 130)) (C := RX11) (T := TX11) (N := 11) hx hb hts inX11 hown hK hP 0 xwd_o0 rfl 7 (by decide) fl61 (fun _ h9 => h9) rfl dX11_forward_21 ?_
    refine lv_iload_n hx hb dX11_forward_24 rfl (lv_at hl 1 rfl) ?_
    refine lv_iload_n hx hb dX11_forward_25 rfl (lv_at hl 2 rfl) ?_
    have hPs : va_P D vwCl (slw y ad σ) H := x_suP hP [10, 8, 45, 46, 47, 48, 49, 35, 36, 37, 38, 39] rfl
    have hDs : va_D A (slw y ad σ) := x_suD hD [10, 8, 45, 46, 47, 48, 49, 35, 36, 37, 38, 39] rfl (by decide)
    refine x_calllT (b1 := fun (u : (Nat → Int32) × (Nat → Int64)) => (xwd y ad iv pv tv kt (tJ (tI σ 175 u.1) 171 u.2))) [10, 8, 45, 46, 47, 48, 49, 35, 36, 37, 38, 39] [none, none, none, none, none, none, none, none, some 1, none, some 0, none, none, none, none, none, none, none, none, none, none, none, none, none, none, none, none, none, none, none, none, none, none, none, none, some 7, some 8, some 9, some 10, some 11, none, none, none, none, none, some 2, some 3, some 4, some 5, some 6, none, none] 12 (va_runV (As := [.ref (ad 130), .int q, .int i]) (rest := []) ⟨hx, hb, hml, hown, hts⟩ (s_slopeForward l D y H.size ad σ q i (show 0 ≤ ((σ.1 137)).toInt from by first | omega | decide) (show ((σ.1 137)).toInt ≤ 8 from by first | omega | decide) (show 0 ≤ ((σ.1 141)).toInt from by first | omega | decide) (show ((σ.1 141)).toInt ≤ 12 from by first | omega | decide) (show 0 ≤ ((σ.1 138)).toInt from by first | omega | decide) hxb133 hxb134 hxb135) (cwV 3 hts g_x_m_forward_1 rfl rfl rfl (by decide +kernel) ⟨Nat.le_of_ble_eq_true rfl, Nat.le_of_ble_eq_true rfl⟩) (x_preV (q := (RX7, TX7, 5)) hK hPs hDs (ci := 6) (q0 := 0) rfl slw_o0) rfl rfl hl.1 rfl (lv_room (Nat.le_of_ble_eq_true rfl)) dX11_forward_26 ⟨Nat.le_of_ble_eq_true rfl, Nat.le_of_ble_eq_true rfl⟩) hP hD hS hA rfl (fun _ => xwd_in_slw (agr_tJ (agr_tI (agr_refl _ _) rfl) rfl)) (fun _ => rfl) (fun _ => rfl) rfl (fun r_3 u H locs hw hP hD hS => ?_)
    obtain ⟨f_4, f_5⟩ := u
    try dsimp only at hw
    have hP : va_P D vwCl (xwd y ad iv pv tv kt (tJ (tI σ 175 f_4) 171 f_5)) H := hP
    have hD : va_D A (xwd y ad iv pv tv kt (tJ (tI σ 175 f_4) 171 f_5)) := hD
    replace hw : True := hw
    obtain ⟨t_6, et_6⟩ : ∃ z9 : OS, z9 = (tJ (tI σ 175 f_4) 171 f_5) := ⟨_, rfl⟩
    rw [← et_6] at hP hD
    have qt_6_22 : (t_6.1 22).toInt = (σ.1 22).toInt := by rw [et_6]; rfl
    have qt_6_81 : (t_6.1 81).toInt = (σ.1 81).toInt := by rw [et_6]; rfl
    have qt_6_82 : (t_6.1 82).toInt = (σ.1 82).toInt := by rw [et_6]; rfl
    have qt_6_85 : (t_6.1 85).toInt = (σ.1 85).toInt := by rw [et_6]; rfl
    have qt_6_86 : (t_6.1 86).toInt = (σ.1 86).toInt := by rw [et_6]; rfl
    have qt_6_105 : (t_6.1 105).toInt = (σ.1 105).toInt := by rw [et_6]; rfl
    have qt_6_137 : (t_6.1 137).toInt = (σ.1 137).toInt := by rw [et_6]; rfl
    have qt_6_139 : (t_6.1 139).toInt = (σ.1 139).toInt := by rw [et_6]; rfl
    have qt_6_141 : (t_6.1 141).toInt = (σ.1 141).toInt := by rw [et_6]; rfl
    have qt_6_183 : (t_6.1 183).toInt = (σ.1 183).toInt := by rw [et_6]; rfl
    have qt_6_138 : (t_6.1 138).toInt = (σ.1 138).toInt := by rw [et_6]; rfl
    have qt_6_106 : (t_6.1 106).toInt = (σ.1 106).toInt := by rw [et_6]; rfl
    have qt_6_107 : (t_6.1 107).toInt = (σ.1 107).toInt := by rw [et_6]; rfl
    have bt_6_102 : bI (t_6.2.2.1 102) 0 7 := by rw [et_6]; exact hxb102
    have bt_6_133 : bI (t_6.2.2.1 133) 0 1358 := by rw [et_6]; exact hxb133
    have bt_6_134 : bI (t_6.2.2.1 134) 0 1358 := by rw [et_6]; exact hxb134
    have bt_6_135 : bI (t_6.2.2.1 135) 0 1358 := by rw [et_6]; exact hxb135
    have bt_6_153 : bI (t_6.2.2.1 153) 0 1358 := by rw [et_6]; exact hxb153
    have bt_6_154 : bI (t_6.2.2.1 154) 0 1358 := by rw [et_6]; exact hxb154
    have bt_6_155 : bI (t_6.2.2.1 155) 0 1358 := by rw [et_6]; exact hxb155
    have hP : va_P D vwCl (xwd y ad iv pv tv kt t_6) H := hP
    have hD : va_D A (xwd y ad iv pv tv kt t_6) := hD
    refine lv_iload_n hx hb dX11_forward_29 rfl (lv_at hl 3 rfl) ?_
    refine x_calllN (va_runS (As := [.long r_3, .int a]) (rest := []) ⟨hx, hb, hml, hown, hts⟩ (x_answer l D y H.size r_3 a) (cwS 2 hts g_x_m_forward_2 rfl rfl rfl (by decide +kernel) ⟨Nat.le_of_ble_eq_true rfl, Nat.le_of_ble_eq_true rfl⟩) (x_preS hK (x_nilP D H) (x_nilD A)) rfl rfl hl.1 rfl (lv_room (Nat.le_of_ble_eq_true rfl)) dX11_forward_30 ⟨Nat.le_of_ble_eq_true rfl, Nat.le_of_ble_eq_true rfl⟩) hP hD hS hA (fun r_7 u H locs hw hP hD hS => ?_)
    try dsimp only at hw
    exact x_lretW (v := r_7) (u := t_6) hx hb hr hQ ⟨(show 0 ≤ ((t_6.1 22)).toInt ∧ ((t_6.1 22)).toInt ≤ 700 ∧ 0 ≤ ((t_6.1 81)).toInt ∧ ((t_6.1 81)).toInt ≤ 8 ∧ 0 ≤ ((t_6.1 82)).toInt ∧ ((t_6.1 82)).toInt ≤ 4 ∧ 0 ≤ ((t_6.1 85)).toInt ∧ ((t_6.1 85)).toInt ≤ 350 ∧ 0 ≤ ((t_6.1 86)).toInt ∧ ((t_6.1 86)).toInt ≤ 700 ∧ 0 ≤ ((t_6.1 105)).toInt ∧ ((t_6.1 105)).toInt ≤ 8 ∧ 0 ≤ ((t_6.1 137)).toInt ∧ ((t_6.1 137)).toInt ≤ 8 ∧ 0 ≤ ((t_6.1 139)).toInt ∧ ((t_6.1 139)).toInt ≤ 1359 ∧ 0 ≤ ((t_6.1 141)).toInt ∧ ((t_6.1 141)).toInt ≤ 12 ∧ 0 ≤ ((t_6.1 183)).toInt ∧ ((t_6.1 183)).toInt ≤ 8 ∧ 0 ≤ ((t_6.1 138)).toInt ∧ 0 ≤ ((t_6.1 106)).toInt ∧ ((t_6.1 106)).toInt ≤ ((t_6.1 107)).toInt ∧ ((t_6.1 107)).toInt ≤ 40 ∧ bI ((t_6.2.2.1 102)) 0 7 ∧ bI ((t_6.2.2.1 133)) 0 1358 ∧ bI ((t_6.2.2.1 134)) 0 1358 ∧ bI ((t_6.2.2.1 135)) 0 1358 ∧ bI ((t_6.2.2.1 153)) 0 1358 ∧ bI ((t_6.2.2.1 154)) 0 1358 ∧ bI ((t_6.2.2.1 155)) 0 1358 from ⟨by omega, by omega, by omega, by omega, by omega, by omega, by omega, by omega, by omega, by omega, by omega, by omega, by omega, by omega, by omega, by omega, by omega, by omega, by omega, by omega, by omega, by omega, by omega, by omega, bt_6_102, bt_6_133, bt_6_134, bt_6_135, bt_6_153, bt_6_154, bt_6_155⟩), (Int32.toInt_inj.mp (by omega))⟩ hP hD hK hS dX11_forward_33 hlocks
  · have kc_2 : r_1.toInt = 0 := by have h9 := c_2; simp only [ge_iff_le, gt_iff_lt, x_lt, x_le, x_eq, ne_eq, Int32.not_lt, Int32.not_le] at h9; simp only [Int32.reduceToInt] at h9; omega
    refine lv_ldc2 (v := (-2000000000)) hx hb hown (hts (.constantLong RX11 192 (-2000000000)) (List.mem_of_getElem? (i := 3) rfl)) dX11_forward_12 ?_
    exact x_lretW (v := (-2000000000)) (u := σ) hx hb hr hQ ⟨(show 0 ≤ ((σ.1 22)).toInt ∧ ((σ.1 22)).toInt ≤ 700 ∧ 0 ≤ ((σ.1 81)).toInt ∧ ((σ.1 81)).toInt ≤ 8 ∧ 0 ≤ ((σ.1 82)).toInt ∧ ((σ.1 82)).toInt ≤ 4 ∧ 0 ≤ ((σ.1 85)).toInt ∧ ((σ.1 85)).toInt ≤ 350 ∧ 0 ≤ ((σ.1 86)).toInt ∧ ((σ.1 86)).toInt ≤ 700 ∧ 0 ≤ ((σ.1 105)).toInt ∧ ((σ.1 105)).toInt ≤ 8 ∧ 0 ≤ ((σ.1 137)).toInt ∧ ((σ.1 137)).toInt ≤ 8 ∧ 0 ≤ ((σ.1 139)).toInt ∧ ((σ.1 139)).toInt ≤ 1359 ∧ 0 ≤ ((σ.1 141)).toInt ∧ ((σ.1 141)).toInt ≤ 12 ∧ 0 ≤ ((σ.1 183)).toInt ∧ ((σ.1 183)).toInt ≤ 8 ∧ 0 ≤ ((σ.1 138)).toInt ∧ 0 ≤ ((σ.1 106)).toInt ∧ ((σ.1 106)).toInt ≤ ((σ.1 107)).toInt ∧ ((σ.1 107)).toInt ≤ 40 ∧ bI ((σ.2.2.1 102)) 0 7 ∧ bI ((σ.2.2.1 133)) 0 1358 ∧ bI ((σ.2.2.1 134)) 0 1358 ∧ bI ((σ.2.2.1 135)) 0 1358 ∧ bI ((σ.2.2.1 153)) 0 1358 ∧ bI ((σ.2.2.1 154)) 0 1358 ∧ bI ((σ.2.2.1 155)) 0 1358 from ⟨by omega, by omega, by omega, by omega, by omega, by omega, by omega, by omega, by omega, by omega, by omega, by omega, by omega, by omega, by omega, by omega, by omega, by omega, by omega, by omega, by omega, by omega, by omega, by omega, hxb102, hxb133, hxb134, hxb135, hxb153, hxb154, hxb155⟩), rfl⟩ hP hD hK hS dX11_forward_15 hlocks

def v_x_m_backward : List Cond := .code yX11_backward cX11_backward 4 (some .long) :: ([.fieldLink RX11 61 "SlopeRunner" "latest" "LSlopeRunner$Tape;", .fieldLink RX11 40 "SlopeRunner" "slopes" "LSlopeRunner$Slopes;", .constantLong RX11 192 (-2000000000)] ++ ((wsV RX11 189 RX8 yX8_hasBoth v_ka_hasBoth) ++ ((wsV RX11 198 RX7 yX7_slopeBackward v_s_slopeBackward) ++ ((wsS RX11 153 yX11_answer v_x_answer) ++ wsX110))))
theorem g_x_m_backward_0 : GoodIn v_x_m_backward (wsV RX11 189 RX8 yX8_hasBoth v_ka_hasBoth) := goodIn_sub (fun w h => List.mem_cons_of_mem _ (List.mem_append_right _ (List.mem_append_left _ h))) (by decide +kernel)
theorem g_x_m_backward_1 : GoodIn v_x_m_backward (wsV RX11 198 RX7 yX7_slopeBackward v_s_slopeBackward) := goodIn_sub (fun w h => List.mem_cons_of_mem _ (List.mem_append_right _ (List.mem_append_right _ (List.mem_append_left _ h)))) (by decide +kernel)
theorem g_x_m_backward_2 : GoodIn v_x_m_backward (wsS RX11 153 yX11_answer v_x_answer) := goodIn_sub (fun w h => List.mem_cons_of_mem _ (List.mem_append_right _ (List.mem_append_right _ (List.mem_append_right _ (List.mem_append_left _ h))))) (by decide +kernel)
set_option maxHeartbeats 4000000 in
set_option maxRecDepth 100000 in
theorem x_m_backward (l : Launch) (D : va_G) (y : Nat → ClassId) (sz : Nat) (ad : Nat → Nat) (iv : Value) (pv : Value) (tv : Value) (kt : va_W) (σ : OS) (q i a : Int32) (hxi : XI σ) : Met l yX11_backward v_x_m_backward ({ frames := 6, cells := 0, slots := 0, locals := 171 } : Room) (va_Pc [.ref (ad 0), .int q, .int i, .int a] (xPre D (xT y) (xwd y ad iv pv tv kt σ) sz)) (va_Ql (fun (r : Int64) (u : OS) => XI u ∧ ((u.1 22) = σ.1 22)) (fun (u : OS) => xB D (xT y) (va_A (xwd y ad iv pv tv kt σ) sz) (xwd y ad iv pv tv kt u)) (va_A (xwd y ad iv pv tv kt σ) sz)) 0 0 (va_A (xwd y ad iv pv tv kt σ) sz) := by
  refine x_metl (cc := cX11_backward) (maxL := 4) (by decide) rfl (Nat.le_of_ble_eq_true rfl) ?_
  intro p e s m below meth c A H locs Q hx hb hml hown hts hr hlocks hmn hA hP hK hD hS ls hl hQ
  have hl : lv_has ls 4 [(0, .ref (ad 0)), (1, .int q), (2, .int i), (3, .int a)] := hl
  have fl61 := hts (.fieldLink RX11 61 "SlopeRunner" "latest" "LSlopeRunner$Tape;") (List.mem_of_getElem? (i := 1) rfl)
  have inX11 : ∀ w ∈ wsX110, w ∈ v_x_m_backward := (fun w h => List.mem_cons_of_mem _ (List.mem_append_right _ (List.mem_append_right _ (List.mem_append_right _ (List.mem_append_right _ h)))))
  have kk_0 : (0 : Int32).toInt = 0 := rfl
  have fl40 := hts (.fieldLink RX11 40 "SlopeRunner" "slopes" "LSlopeRunner$Slopes;") (List.mem_of_getElem? (i := 2) rfl)
  obtain ⟨hxi0, hxi1, hxi2, hxi3, hxi4, hxi5, hxi6, hxi7, hxi8, hxi9, hxi10, hxi11, hxi12, hxi13, hxi14, hxi15, hxi16, hxi17, hxi18, hxi19, hxi20, hxi21, hxi22, hxi23, hxb102, hxb133, hxb134, hxb135, hxb153, hxb154, hxb155⟩ := hxi
  refine lv_aload_n hx hb dX11_backward_0 rfl (lv_at hl 0 rfl) ?_
  refine va_get (D := D) (ci := 10) (v := .ref (ad 130)) (C := RX11) (T := TX11) (N := 11) hx hb hts inX11 hown hK hP 0 xwd_o0 rfl 7 (by decide) fl61 (fun _ h9 => h9) rfl dX11_backward_1 ?_
  refine lv_iload_n hx hb dX11_backward_4 rfl (lv_at hl 1 rfl) ?_
  refine lv_iload_n hx hb dX11_backward_5 rfl (lv_at hl 2 rfl) ?_
  have hPs : va_P D vwCl (tpw y ad σ) H := x_suP hP [8, 35, 36, 37, 38, 39] rfl
  have hDs : va_D A (tpw y ad σ) := x_suD hD [8, 35, 36, 37, 38, 39] rfl (by decide)
  refine x_calliT (b1 := fun (u : Unit) => (xwd y ad iv pv tv kt σ)) [8, 35, 36, 37, 38, 39] [none, none, none, none, none, none, none, none, some 0, none, none, none, none, none, none, none, none, none, none, none, none, none, none, none, none, none, none, none, none, none, none, none, none, none, none, some 1, some 2, some 3, some 4, some 5, none, none, none, none, none, none, none, none, none, none, none, none] 6 (va_runV (As := [.int q, .int i]) (rest := []) ⟨hx, hb, hml, hown, hts⟩ (ka_hasBoth l D y H.size ad σ q i) (cwV 2 hts g_x_m_backward_0 rfl rfl rfl (by decide +kernel) ⟨Nat.le_of_ble_eq_true rfl, Nat.le_of_ble_eq_true rfl⟩) (x_preV (q := (RX8, TX8, 13)) hK hPs hDs (ci := 7) (q0 := 0) rfl tpw_o0) rfl rfl hl.1 rfl (lv_room (Nat.le_of_ble_eq_true rfl)) dX11_backward_6 ⟨Nat.le_of_ble_eq_true rfl, Nat.le_of_ble_eq_true rfl⟩) hP hD hS hA rfl (fun _ => xwd_in_tpw (agr_refl _ _)) (fun _ => rfl) (fun _ => rfl) rfl (fun r_1 u H locs hw hP hD hS => ?_)
  try dsimp only at hw
  have hP : va_P D vwCl (xwd y ad iv pv tv kt σ) H := hP
  have hD : va_D A (xwd y ad iv pv tv kt σ) := hD
  replace hw : (r_1.toInt = 1 ∧ 0 ≤ q.toInt ∧ q.toInt < ((σ.1 141)).toInt ∧ 0 ≤ i.toInt ∧ i.toInt < ((σ.1 137)).toInt) ∨ r_1.toInt = 0 := hw
  have hhb9 := hw
  refine lv_if_ne (tgt := 16) hx hb dX11_backward_9 (by decide) (fun c_2 => ?_) (fun c_2 => ?_)
  · have kc_2 : r_1.toInt ≠ 0 := by have h9 := c_2; simp only [ge_iff_le, gt_iff_lt, x_lt, x_le, x_eq, ne_eq, Int32.not_lt, Int32.not_le] at h9; simp only [Int32.reduceToInt] at h9; omega
    refine lv_aload_n hx hb dX11_backward_16 rfl (lv_at hl 0 rfl) ?_
    refine va_get (D := D) (ci := 10) (v := .ref (ad 170)) (C := RX11) (T := TX11) (N := 11) hx hb hts inX11 hown hK hP 0 xwd_o0 rfl 4 (by decide) fl40 (fun _ h9 => h9) rfl dX11_backward_17 ?_
    refine lv_aload_n hx hb dX11_backward_20 rfl (lv_at hl 0 rfl) ?_
    refine va_get (D := D) (ci := 10) (v := .ref (ad 130)) (C := RX11) (T := TX11) (N := 11) hx hb hts inX11 hown hK hP 0 xwd_o0 rfl 7 (by decide) fl61 (fun _ h9 => h9) rfl dX11_backward_21 ?_
    refine lv_iload_n hx hb dX11_backward_24 rfl (lv_at hl 1 rfl) ?_
    refine lv_iload_n hx hb dX11_backward_25 rfl (lv_at hl 2 rfl) ?_
    have hPs : va_P D vwCl (slw y ad σ) H := x_suP hP [10, 8, 45, 46, 47, 48, 49, 35, 36, 37, 38, 39] rfl
    have hDs : va_D A (slw y ad σ) := x_suD hD [10, 8, 45, 46, 47, 48, 49, 35, 36, 37, 38, 39] rfl (by decide)
    refine x_calllT (b1 := fun (u : (Nat → Int64)) => (xwd y ad iv pv tv kt (tJ σ 171 u))) [10, 8, 45, 46, 47, 48, 49, 35, 36, 37, 38, 39] [none, none, none, none, none, none, none, none, some 1, none, some 0, none, none, none, none, none, none, none, none, none, none, none, none, none, none, none, none, none, none, none, none, none, none, none, none, some 7, some 8, some 9, some 10, some 11, none, none, none, none, none, some 2, some 3, some 4, some 5, some 6, none, none] 12 (va_runV (As := [.ref (ad 130), .int q, .int i]) (rest := []) ⟨hx, hb, hml, hown, hts⟩ (s_slopeBackward l D y H.size ad σ q i (by first | omega | decide) (show 0 ≤ ((σ.1 137)).toInt from by first | omega | decide) (show ((σ.1 137)).toInt ≤ 8 from by first | omega | decide) (show 0 ≤ ((σ.1 141)).toInt from by first | omega | decide) (show ((σ.1 141)).toInt ≤ 12 from by first | omega | decide) (show 0 ≤ ((σ.1 138)).toInt from by first | omega | decide) hxb133 hxb134 hxb135) (cwV 3 hts g_x_m_backward_1 rfl rfl rfl (by decide +kernel) ⟨Nat.le_of_ble_eq_true rfl, Nat.le_of_ble_eq_true rfl⟩) (x_preV (q := (RX7, TX7, 5)) hK hPs hDs (ci := 6) (q0 := 0) rfl slw_o0) rfl rfl hl.1 rfl (lv_room (Nat.le_of_ble_eq_true rfl)) dX11_backward_26 ⟨Nat.le_of_ble_eq_true rfl, Nat.le_of_ble_eq_true rfl⟩) hP hD hS hA rfl (fun _ => xwd_in_slw (agr_tJ (agr_refl _ _) rfl)) (fun _ => rfl) (fun _ => rfl) rfl (fun r_3 u H locs hw hP hD hS => ?_)
    obtain ⟨f_4, rfl⟩ : ∃ z9, z9 = u := ⟨_, rfl⟩
    try dsimp only at hw
    have hP : va_P D vwCl (xwd y ad iv pv tv kt (tJ σ 171 f_4)) H := hP
    have hD : va_D A (xwd y ad iv pv tv kt (tJ σ 171 f_4)) := hD
    obtain ⟨t_5, et_5⟩ : ∃ z9 : OS, z9 = (tJ σ 171 f_4) := ⟨_, rfl⟩
    rw [← et_5] at hP hD
    have qt_5_22 : (t_5.1 22).toInt = (σ.1 22).toInt := by rw [et_5]; rfl
    have qt_5_81 : (t_5.1 81).toInt = (σ.1 81).toInt := by rw [et_5]; rfl
    have qt_5_82 : (t_5.1 82).toInt = (σ.1 82).toInt := by rw [et_5]; rfl
    have qt_5_85 : (t_5.1 85).toInt = (σ.1 85).toInt := by rw [et_5]; rfl
    have qt_5_86 : (t_5.1 86).toInt = (σ.1 86).toInt := by rw [et_5]; rfl
    have qt_5_105 : (t_5.1 105).toInt = (σ.1 105).toInt := by rw [et_5]; rfl
    have qt_5_137 : (t_5.1 137).toInt = (σ.1 137).toInt := by rw [et_5]; rfl
    have qt_5_139 : (t_5.1 139).toInt = (σ.1 139).toInt := by rw [et_5]; rfl
    have qt_5_141 : (t_5.1 141).toInt = (σ.1 141).toInt := by rw [et_5]; rfl
    have qt_5_183 : (t_5.1 183).toInt = (σ.1 183).toInt := by rw [et_5]; rfl
    have qt_5_138 : (t_5.1 138).toInt = (σ.1 138).toInt := by rw [et_5]; rfl
    have qt_5_106 : (t_5.1 106).toInt = (σ.1 106).toInt := by rw [et_5]; rfl
    have qt_5_107 : (t_5.1 107).toInt = (σ.1 107).toInt := by rw [et_5]; rfl
    have bt_5_102 : bI (t_5.2.2.1 102) 0 7 := by rw [et_5]; exact hxb102
    have bt_5_133 : bI (t_5.2.2.1 133) 0 1358 := by rw [et_5]; exact hxb133
    have bt_5_134 : bI (t_5.2.2.1 134) 0 1358 := by rw [et_5]; exact hxb134
    have bt_5_135 : bI (t_5.2.2.1 135) 0 1358 := by rw [et_5]; exact hxb135
    have bt_5_153 : bI (t_5.2.2.1 153) 0 1358 := by rw [et_5]; exact hxb153
    have bt_5_154 : bI (t_5.2.2.1 154) 0 1358 := by rw [et_5]; exact hxb154
    have bt_5_155 : bI (t_5.2.2.1 155) 0 1358 := by rw [et_5]; exact hxb155
    have hP : va_P D vwCl (xwd y ad iv pv tv kt t_5) H := hP
    have hD : va_D A (xwd y ad iv pv tv kt t_5) := hD
    refine lv_iload_n hx hb dX11_backward_29 rfl (lv_at hl 3 rfl) ?_
    refine x_calllN (va_runS (As := [.long r_3, .int a]) (rest := []) ⟨hx, hb, hml, hown, hts⟩ (x_answer l D y H.size r_3 a) (cwS 2 hts g_x_m_backward_2 rfl rfl rfl (by decide +kernel) ⟨Nat.le_of_ble_eq_true rfl, Nat.le_of_ble_eq_true rfl⟩) (x_preS hK (x_nilP D H) (x_nilD A)) rfl rfl hl.1 rfl (lv_room (Nat.le_of_ble_eq_true rfl)) dX11_backward_30 ⟨Nat.le_of_ble_eq_true rfl, Nat.le_of_ble_eq_true rfl⟩) hP hD hS hA (fun r_6 u H locs hw hP hD hS => ?_)
    try dsimp only at hw
    exact x_lretW (v := r_6) (u := t_5) hx hb hr hQ ⟨(show 0 ≤ ((t_5.1 22)).toInt ∧ ((t_5.1 22)).toInt ≤ 700 ∧ 0 ≤ ((t_5.1 81)).toInt ∧ ((t_5.1 81)).toInt ≤ 8 ∧ 0 ≤ ((t_5.1 82)).toInt ∧ ((t_5.1 82)).toInt ≤ 4 ∧ 0 ≤ ((t_5.1 85)).toInt ∧ ((t_5.1 85)).toInt ≤ 350 ∧ 0 ≤ ((t_5.1 86)).toInt ∧ ((t_5.1 86)).toInt ≤ 700 ∧ 0 ≤ ((t_5.1 105)).toInt ∧ ((t_5.1 105)).toInt ≤ 8 ∧ 0 ≤ ((t_5.1 137)).toInt ∧ ((t_5.1 137)).toInt ≤ 8 ∧ 0 ≤ ((t_5.1 139)).toInt ∧ ((t_5.1 139)).toInt ≤ 1359 ∧ 0 ≤ ((t_5.1 141)).toInt ∧ ((t_5.1 141)).toInt ≤ 12 ∧ 0 ≤ ((t_5.1 183)).toInt ∧ ((t_5.1 183)).toInt ≤ 8 ∧ 0 ≤ ((t_5.1 138)).toInt ∧ 0 ≤ ((t_5.1 106)).toInt ∧ ((t_5.1 106)).toInt ≤ ((t_5.1 107)).toInt ∧ ((t_5.1 107)).toInt ≤ 40 ∧ bI ((t_5.2.2.1 102)) 0 7 ∧ bI ((t_5.2.2.1 133)) 0 1358 ∧ bI ((t_5.2.2.1 134)) 0 1358 ∧ bI ((t_5.2.2.1 135)) 0 1358 ∧ bI ((t_5.2.2.1 153)) 0 1358 ∧ bI ((t_5.2.2.1 154)) 0 1358 ∧ bI ((t_5.2.2.1 155)) 0 1358 from ⟨by omega, by omega, by omega, by omega, by omega, by omega, by omega, by omega, by omega, by omega, by omega, by omega, by omega, by omega, by omega, by omega, by omega, by omega, by omega, by omega, by omega, by omega, by omega, by omega, bt_5_102, bt_5_133, bt_5_134, bt_5_135, bt_5_153, bt_5_154, bt_5_155⟩), (Int32.toInt_inj.mp (by omega))⟩ hP hD hK hS dX11_backward_33 hlocks
  · have kc_2 : r_1.toInt = 0 := by have h9 := c_2; simp only [ge_iff_le, gt_iff_lt, x_lt, x_le, x_eq, ne_eq, Int32.not_lt, Int32.not_le] at h9; simp only [Int32.reduceToInt] at h9; omega
    refine lv_ldc2 (v := (-2000000000)) hx hb hown (hts (.constantLong RX11 192 (-2000000000)) (List.mem_of_getElem? (i := 3) rfl)) dX11_backward_12 ?_
    exact x_lretW (v := (-2000000000)) (u := σ) hx hb hr hQ ⟨(show 0 ≤ ((σ.1 22)).toInt ∧ ((σ.1 22)).toInt ≤ 700 ∧ 0 ≤ ((σ.1 81)).toInt ∧ ((σ.1 81)).toInt ≤ 8 ∧ 0 ≤ ((σ.1 82)).toInt ∧ ((σ.1 82)).toInt ≤ 4 ∧ 0 ≤ ((σ.1 85)).toInt ∧ ((σ.1 85)).toInt ≤ 350 ∧ 0 ≤ ((σ.1 86)).toInt ∧ ((σ.1 86)).toInt ≤ 700 ∧ 0 ≤ ((σ.1 105)).toInt ∧ ((σ.1 105)).toInt ≤ 8 ∧ 0 ≤ ((σ.1 137)).toInt ∧ ((σ.1 137)).toInt ≤ 8 ∧ 0 ≤ ((σ.1 139)).toInt ∧ ((σ.1 139)).toInt ≤ 1359 ∧ 0 ≤ ((σ.1 141)).toInt ∧ ((σ.1 141)).toInt ≤ 12 ∧ 0 ≤ ((σ.1 183)).toInt ∧ ((σ.1 183)).toInt ≤ 8 ∧ 0 ≤ ((σ.1 138)).toInt ∧ 0 ≤ ((σ.1 106)).toInt ∧ ((σ.1 106)).toInt ≤ ((σ.1 107)).toInt ∧ ((σ.1 107)).toInt ≤ 40 ∧ bI ((σ.2.2.1 102)) 0 7 ∧ bI ((σ.2.2.1 133)) 0 1358 ∧ bI ((σ.2.2.1 134)) 0 1358 ∧ bI ((σ.2.2.1 135)) 0 1358 ∧ bI ((σ.2.2.1 153)) 0 1358 ∧ bI ((σ.2.2.1 154)) 0 1358 ∧ bI ((σ.2.2.1 155)) 0 1358 from ⟨by omega, by omega, by omega, by omega, by omega, by omega, by omega, by omega, by omega, by omega, by omega, by omega, by omega, by omega, by omega, by omega, by omega, by omega, by omega, by omega, by omega, by omega, by omega, by omega, hxb102, hxb133, hxb134, hxb135, hxb153, hxb154, hxb155⟩), rfl⟩ hP hD hK hS dX11_backward_15 hlocks

def v_x_m_twice : List Cond := .code yX11_twice cX11_twice 5 (some .long) :: ([.fieldLink RX11 61 "SlopeRunner" "latest" "LSlopeRunner$Tape;", .fieldLink RX11 40 "SlopeRunner" "slopes" "LSlopeRunner$Slopes;", .constantLong RX11 192 (-2000000000)] ++ ((wsV RX11 189 RX8 yX8_hasBoth v_ka_hasBoth) ++ ((wsV RX11 201 RX7 yX7_slopeTwice v_s_slopeTwice) ++ ((wsS RX11 153 yX11_answer v_x_answer) ++ wsX110))))
theorem g_x_m_twice_0 : GoodIn v_x_m_twice (wsV RX11 189 RX8 yX8_hasBoth v_ka_hasBoth) := goodIn_sub (fun w h => List.mem_cons_of_mem _ (List.mem_append_right _ (List.mem_append_left _ h))) (by decide +kernel)
theorem g_x_m_twice_1 : GoodIn v_x_m_twice (wsV RX11 201 RX7 yX7_slopeTwice v_s_slopeTwice) := goodIn_sub (fun w h => List.mem_cons_of_mem _ (List.mem_append_right _ (List.mem_append_right _ (List.mem_append_left _ h)))) (by decide +kernel)
theorem g_x_m_twice_2 : GoodIn v_x_m_twice (wsS RX11 153 yX11_answer v_x_answer) := goodIn_sub (fun w h => List.mem_cons_of_mem _ (List.mem_append_right _ (List.mem_append_right _ (List.mem_append_right _ (List.mem_append_left _ h))))) (by decide +kernel)
set_option maxHeartbeats 4000000 in
set_option maxRecDepth 100000 in
theorem x_m_twice (l : Launch) (D : va_G) (y : Nat → ClassId) (sz : Nat) (ad : Nat → Nat) (iv : Value) (pv : Value) (tv : Value) (kt : va_W) (σ : OS) (q i j a : Int32) (hxi : XI σ) : Met l yX11_twice v_x_m_twice ({ frames := 6, cells := 0, slots := 0, locals := 176 } : Room) (va_Pc [.ref (ad 0), .int q, .int i, .int j, .int a] (xPre D (xT y) (xwd y ad iv pv tv kt σ) sz)) (va_Ql (fun (r : Int64) (u : OS) => XI u ∧ ((u.1 22) = σ.1 22)) (fun (u : OS) => xB D (xT y) (va_A (xwd y ad iv pv tv kt σ) sz) (xwd y ad iv pv tv kt u)) (va_A (xwd y ad iv pv tv kt σ) sz)) 0 0 (va_A (xwd y ad iv pv tv kt σ) sz) := by
  refine x_metl (cc := cX11_twice) (maxL := 5) (by decide) rfl (Nat.le_of_ble_eq_true rfl) ?_
  intro p e s m below meth c A H locs Q hx hb hml hown hts hr hlocks hmn hA hP hK hD hS ls hl hQ
  have hl : lv_has ls 5 [(0, .ref (ad 0)), (1, .int q), (2, .int i), (3, .int j), (4, .int a)] := hl
  have fl61 := hts (.fieldLink RX11 61 "SlopeRunner" "latest" "LSlopeRunner$Tape;") (List.mem_of_getElem? (i := 1) rfl)
  have inX11 : ∀ w ∈ wsX110, w ∈ v_x_m_twice := (fun w h => List.mem_cons_of_mem _ (List.mem_append_right _ (List.mem_append_right _ (List.mem_append_right _ (List.mem_append_right _ h)))))
  have kk_0 : (0 : Int32).toInt = 0 := rfl
  have fl40 := hts (.fieldLink RX11 40 "SlopeRunner" "slopes" "LSlopeRunner$Slopes;") (List.mem_of_getElem? (i := 2) rfl)
  obtain ⟨hxi0, hxi1, hxi2, hxi3, hxi4, hxi5, hxi6, hxi7, hxi8, hxi9, hxi10, hxi11, hxi12, hxi13, hxi14, hxi15, hxi16, hxi17, hxi18, hxi19, hxi20, hxi21, hxi22, hxi23, hxb102, hxb133, hxb134, hxb135, hxb153, hxb154, hxb155⟩ := hxi
  refine lv_aload_n hx hb dX11_twice_0 rfl (lv_at hl 0 rfl) ?_
  refine va_get (D := D) (ci := 10) (v := .ref (ad 130)) (C := RX11) (T := TX11) (N := 11) hx hb hts inX11 hown hK hP 0 xwd_o0 rfl 7 (by decide) fl61 (fun _ h9 => h9) rfl dX11_twice_1 ?_
  refine lv_iload_n hx hb dX11_twice_4 rfl (lv_at hl 1 rfl) ?_
  refine lv_iload_n hx hb dX11_twice_5 rfl (lv_at hl 2 rfl) ?_
  have hPs : va_P D vwCl (tpw y ad σ) H := x_suP hP [8, 35, 36, 37, 38, 39] rfl
  have hDs : va_D A (tpw y ad σ) := x_suD hD [8, 35, 36, 37, 38, 39] rfl (by decide)
  refine x_calliT (b1 := fun (u : Unit) => (xwd y ad iv pv tv kt σ)) [8, 35, 36, 37, 38, 39] [none, none, none, none, none, none, none, none, some 0, none, none, none, none, none, none, none, none, none, none, none, none, none, none, none, none, none, none, none, none, none, none, none, none, none, none, some 1, some 2, some 3, some 4, some 5, none, none, none, none, none, none, none, none, none, none, none, none] 6 (va_runV (As := [.int q, .int i]) (rest := []) ⟨hx, hb, hml, hown, hts⟩ (ka_hasBoth l D y H.size ad σ q i) (cwV 2 hts g_x_m_twice_0 rfl rfl rfl (by decide +kernel) ⟨Nat.le_of_ble_eq_true rfl, Nat.le_of_ble_eq_true rfl⟩) (x_preV (q := (RX8, TX8, 13)) hK hPs hDs (ci := 7) (q0 := 0) rfl tpw_o0) rfl rfl hl.1 rfl (lv_room (Nat.le_of_ble_eq_true rfl)) dX11_twice_6 ⟨Nat.le_of_ble_eq_true rfl, Nat.le_of_ble_eq_true rfl⟩) hP hD hS hA rfl (fun _ => xwd_in_tpw (agr_refl _ _)) (fun _ => rfl) (fun _ => rfl) rfl (fun r_1 u H locs hw hP hD hS => ?_)
  try dsimp only at hw
  have hP : va_P D vwCl (xwd y ad iv pv tv kt σ) H := hP
  have hD : va_D A (xwd y ad iv pv tv kt σ) := hD
  replace hw : (r_1.toInt = 1 ∧ 0 ≤ q.toInt ∧ q.toInt < ((σ.1 141)).toInt ∧ 0 ≤ i.toInt ∧ i.toInt < ((σ.1 137)).toInt) ∨ r_1.toInt = 0 := hw
  have hhb9 := hw
  refine lv_if_eq (tgt := 24) hx hb dX11_twice_9 (by decide) (fun c_2 => ?_) (fun c_2 => ?_)
  · have kc_2 : r_1.toInt = 0 := by have h9 := c_2; simp only [ge_iff_le, gt_iff_lt, x_lt, x_le, x_eq, ne_eq, Int32.not_lt, Int32.not_le] at h9; simp only [Int32.reduceToInt] at h9; omega
    refine lv_ldc2 (v := (-2000000000)) hx hb hown (hts (.constantLong RX11 192 (-2000000000)) (List.mem_of_getElem? (i := 3) rfl)) dX11_twice_24 ?_
    exact x_lretW (v := (-2000000000)) (u := σ) hx hb hr hQ ⟨(show 0 ≤ ((σ.1 22)).toInt ∧ ((σ.1 22)).toInt ≤ 700 ∧ 0 ≤ ((σ.1 81)).toInt ∧ ((σ.1 81)).toInt ≤ 8 ∧ 0 ≤ ((σ.1 82)).toInt ∧ ((σ.1 82)).toInt ≤ 4 ∧ 0 ≤ ((σ.1 85)).toInt ∧ ((σ.1 85)).toInt ≤ 350 ∧ 0 ≤ ((σ.1 86)).toInt ∧ ((σ.1 86)).toInt ≤ 700 ∧ 0 ≤ ((σ.1 105)).toInt ∧ ((σ.1 105)).toInt ≤ 8 ∧ 0 ≤ ((σ.1 137)).toInt ∧ ((σ.1 137)).toInt ≤ 8 ∧ 0 ≤ ((σ.1 139)).toInt ∧ ((σ.1 139)).toInt ≤ 1359 ∧ 0 ≤ ((σ.1 141)).toInt ∧ ((σ.1 141)).toInt ≤ 12 ∧ 0 ≤ ((σ.1 183)).toInt ∧ ((σ.1 183)).toInt ≤ 8 ∧ 0 ≤ ((σ.1 138)).toInt ∧ 0 ≤ ((σ.1 106)).toInt ∧ ((σ.1 106)).toInt ≤ ((σ.1 107)).toInt ∧ ((σ.1 107)).toInt ≤ 40 ∧ bI ((σ.2.2.1 102)) 0 7 ∧ bI ((σ.2.2.1 133)) 0 1358 ∧ bI ((σ.2.2.1 134)) 0 1358 ∧ bI ((σ.2.2.1 135)) 0 1358 ∧ bI ((σ.2.2.1 153)) 0 1358 ∧ bI ((σ.2.2.1 154)) 0 1358 ∧ bI ((σ.2.2.1 155)) 0 1358 from ⟨by omega, by omega, by omega, by omega, by omega, by omega, by omega, by omega, by omega, by omega, by omega, by omega, by omega, by omega, by omega, by omega, by omega, by omega, by omega, by omega, by omega, by omega, by omega, by omega, hxb102, hxb133, hxb134, hxb135, hxb153, hxb154, hxb155⟩), rfl⟩ hP hD hK hS dX11_twice_27 hlocks
  · have kc_2 : r_1.toInt ≠ 0 := by have h9 := c_2; simp only [ge_iff_le, gt_iff_lt, x_lt, x_le, x_eq, ne_eq, Int32.not_lt, Int32.not_le] at h9; simp only [Int32.reduceToInt] at h9; omega
    refine lv_aload_n hx hb dX11_twice_12 rfl (lv_at hl 0 rfl) ?_
    refine va_get (D := D) (ci := 10) (v := .ref (ad 130)) (C := RX11) (T := TX11) (N := 11) hx hb hts inX11 hown hK hP 0 xwd_o0 rfl 7 (by decide) fl61 (fun _ h9 => h9) rfl dX11_twice_13 ?_
    refine lv_iload_n hx hb dX11_twice_16 rfl (lv_at hl 1 rfl) ?_
    refine lv_iload_n hx hb dX11_twice_17 rfl (lv_at hl 3 rfl) ?_
    have hPs : va_P D vwCl (tpw y ad σ) H := x_suP hP [8, 35, 36, 37, 38, 39] rfl
    have hDs : va_D A (tpw y ad σ) := x_suD hD [8, 35, 36, 37, 38, 39] rfl (by decide)
    refine x_calliT (b1 := fun (u : Unit) => (xwd y ad iv pv tv kt σ)) [8, 35, 36, 37, 38, 39] [none, none, none, none, none, none, none, none, some 0, none, none, none, none, none, none, none, none, none, none, none, none, none, none, none, none, none, none, none, none, none, none, none, none, none, none, some 1, some 2, some 3, some 4, some 5, none, none, none, none, none, none, none, none, none, none, none, none] 6 (va_runV (As := [.int q, .int j]) (rest := []) ⟨hx, hb, hml, hown, hts⟩ (ka_hasBoth l D y H.size ad σ q j) (cwV 2 hts g_x_m_twice_0 rfl rfl rfl (by decide +kernel) ⟨Nat.le_of_ble_eq_true rfl, Nat.le_of_ble_eq_true rfl⟩) (x_preV (q := (RX8, TX8, 13)) hK hPs hDs (ci := 7) (q0 := 0) rfl tpw_o0) rfl rfl hl.1 rfl (lv_room (Nat.le_of_ble_eq_true rfl)) dX11_twice_18 ⟨Nat.le_of_ble_eq_true rfl, Nat.le_of_ble_eq_true rfl⟩) hP hD hS hA rfl (fun _ => xwd_in_tpw (agr_refl _ _)) (fun _ => rfl) (fun _ => rfl) rfl (fun r_3 u H locs hw hP hD hS => ?_)
    try dsimp only at hw
    have hP : va_P D vwCl (xwd y ad iv pv tv kt σ) H := hP
    have hD : va_D A (xwd y ad iv pv tv kt σ) := hD
    replace hw : (r_3.toInt = 1 ∧ 0 ≤ q.toInt ∧ q.toInt < ((σ.1 141)).toInt ∧ 0 ≤ j.toInt ∧ j.toInt < ((σ.1 137)).toInt) ∨ r_3.toInt = 0 := hw
    have hhb21 := hw
    refine lv_if_ne (tgt := 28) hx hb dX11_twice_21 (by decide) (fun c_4 => ?_) (fun c_4 => ?_)
    · have kc_4 : r_3.toInt ≠ 0 := by have h9 := c_4; simp only [ge_iff_le, gt_iff_lt, x_lt, x_le, x_eq, ne_eq, Int32.not_lt, Int32.not_le] at h9; simp only [Int32.reduceToInt] at h9; omega
      refine lv_aload_n hx hb dX11_twice_28 rfl (lv_at hl 0 rfl) ?_
      refine va_get (D := D) (ci := 10) (v := .ref (ad 170)) (C := RX11) (T := TX11) (N := 11) hx hb hts inX11 hown hK hP 0 xwd_o0 rfl 4 (by decide) fl40 (fun _ h9 => h9) rfl dX11_twice_29 ?_
      refine lv_aload_n hx hb dX11_twice_32 rfl (lv_at hl 0 rfl) ?_
      refine va_get (D := D) (ci := 10) (v := .ref (ad 130)) (C := RX11) (T := TX11) (N := 11) hx hb hts inX11 hown hK hP 0 xwd_o0 rfl 7 (by decide) fl61 (fun _ h9 => h9) rfl dX11_twice_33 ?_
      refine lv_iload_n hx hb dX11_twice_36 rfl (lv_at hl 1 rfl) ?_
      refine lv_iload_n hx hb dX11_twice_37 rfl (lv_at hl 2 rfl) ?_
      refine lv_iload_n hx hb dX11_twice_38 rfl (lv_at hl 3 rfl) ?_
      have hPs : va_P D vwCl (slw y ad σ) H := x_suP hP [10, 8, 45, 46, 47, 48, 49, 35, 36, 37, 38, 39] rfl
      have hDs : va_D A (slw y ad σ) := x_suD hD [10, 8, 45, 46, 47, 48, 49, 35, 36, 37, 38, 39] rfl (by decide)
      refine x_calllT (b1 := fun (u : (Nat → Int32) × (Nat → Int64) × (Nat → Int64) × (Nat → Int64)) => (xwd y ad iv pv tv kt (tJ (tJ (tJ (tI σ 175 u.1) 171 u.2.1) 172 u.2.2.1) 173 u.2.2.2))) [10, 8, 45, 46, 47, 48, 49, 35, 36, 37, 38, 39] [none, none, none, none, none, none, none, none, some 1, none, some 0, none, none, none, none, none, none, none, none, none, none, none, none, none, none, none, none, none, none, none, none, none, none, none, none, some 7, some 8, some 9, some 10, some 11, none, none, none, none, none, some 2, some 3, some 4, some 5, some 6, none, none] 12 (va_runV (As := [.ref (ad 130), .int q, .int i, .int j]) (rest := []) ⟨hx, hb, hml, hown, hts⟩ (s_slopeTwice l D y H.size ad σ q i j (show 0 ≤ ((σ.1 137)).toInt from by first | omega | decide) (show ((σ.1 137)).toInt ≤ 8 from by first | omega | decide) (show 0 ≤ ((σ.1 141)).toInt from by first | omega | decide) (show ((σ.1 141)).toInt ≤ 12 from by first | omega | decide) (show 0 ≤ ((σ.1 138)).toInt from by first | omega | decide) hxb133 hxb134 hxb135) (cwV 4 hts g_x_m_twice_1 rfl rfl rfl (by decide +kernel) ⟨Nat.le_of_ble_eq_true rfl, Nat.le_of_ble_eq_true rfl⟩) (x_preV (q := (RX7, TX7, 5)) hK hPs hDs (ci := 6) (q0 := 0) rfl slw_o0) rfl rfl hl.1 rfl (lv_room (Nat.le_of_ble_eq_true rfl)) dX11_twice_39 ⟨Nat.le_of_ble_eq_true rfl, Nat.le_of_ble_eq_true rfl⟩) hP hD hS hA rfl (fun _ => xwd_in_slw (agr_tJ (agr_tJ (agr_tJ (agr_tI (agr_refl _ _) rfl) rfl) rfl) rfl)) (fun _ => rfl) (fun _ => rfl) rfl (fun r_5 u H locs hw hP hD hS => ?_)
      obtain ⟨f_6, f_7, f_8, f_9⟩ := u
      try dsimp only at hw
      have hP : va_P D vwCl (xwd y ad iv pv tv kt (tJ (tJ (tJ (tI σ 175 f_6) 171 f_7) 172 f_8) 173 f_9)) H := hP
      have hD : va_D A (xwd y ad iv pv tv kt (tJ (tJ (tJ (tI σ 175 f_6) 171 f_7) 172 f_8) 173 f_9)) := hD
      replace hw : True := hw
      obtain ⟨t_10, et_10⟩ : ∃ z9 : OS, z9 = (tJ (tJ (tJ (tI σ 175 f_6) 171 f_7) 172 f_8) 173 f_9) := ⟨_, rfl⟩
      rw [← et_10] at hP hD
      have qt_10_22 : (t_10.1 22).toInt = (σ.1 22).toInt := by rw [et_10]; rfl
      have qt_10_81 : (t_10.1 81).toInt = (σ.1 81).toInt := by rw [et_10]; rfl
      have qt_10_82 : (t_10.1 82).toInt = (σ.1 82).toInt := by rw [et_10]; rfl
      have qt_10_85 : (t_10.1 85).toInt = (σ.1 85).toInt := by rw [et_10]; rfl
      have qt_10_86 : (t_10.1 86).toInt = (σ.1 86).toInt := by rw [et_10]; rfl
      have qt_10_105 : (t_10.1 105).toInt = (σ.1 105).toInt := by rw [et_10]; rfl
      have qt_10_137 : (t_10.1 137).toInt = (σ.1 137).toInt := by rw [et_10]; rfl
      have qt_10_139 : (t_10.1 139).toInt = (σ.1 139).toInt := by rw [et_10]; rfl
      have qt_10_141 : (t_10.1 141).toInt = (σ.1 141).toInt := by rw [et_10]; rfl
      have qt_10_183 : (t_10.1 183).toInt = (σ.1 183).toInt := by rw [et_10]; rfl
      have qt_10_138 : (t_10.1 138).toInt = (σ.1 138).toInt := by rw [et_10]; rfl
      have qt_10_106 : (t_10.1 106).toInt = (σ.1 106).toInt := by rw [et_10]; rfl
      have qt_10_107 : (t_10.1 107).toInt = (σ.1 107).toInt := by rw [et_10]; rfl
      have bt_10_102 : bI (t_10.2.2.1 102) 0 7 := by rw [et_10]; exact hxb102
      have bt_10_133 : bI (t_10.2.2.1 133) 0 1358 := by rw [et_10]; exact hxb133
      have bt_10_134 : bI (t_10.2.2.1 134) 0 1358 := by rw [et_10]; exact hxb134
      have bt_10_135 : bI (t_10.2.2.1 135) 0 1358 := by rw [et_10]; exact hxb135
      have bt_10_153 : bI (t_10.2.2.1 153) 0 1358 := by rw [et_10]; exact hxb153
      have bt_10_154 : bI (t_10.2.2.1 154) 0 1358 := by rw [et_10]; exact hxb154
      have bt_10_155 : bI (t_10.2.2.1 155) 0 1358 := by rw [et_10]; exact hxb155
      have hP : va_P D vwCl (xwd y ad iv pv tv kt t_10) H := hP
      have hD : va_D A (xwd y ad iv pv tv kt t_10) := hD
      refine lv_iload hx hb dX11_twice_42 (lv_at hl 4 rfl) ?_
      refine x_calllN (va_runS (As := [.long r_5, .int a]) (rest := []) ⟨hx, hb, hml, hown, hts⟩ (x_answer l D y H.size r_5 a) (cwS 2 hts g_x_m_twice_2 rfl rfl rfl (by decide +kernel) ⟨Nat.le_of_ble_eq_true rfl, Nat.le_of_ble_eq_true rfl⟩) (x_preS hK (x_nilP D H) (x_nilD A)) rfl rfl hl.1 rfl (lv_room (Nat.le_of_ble_eq_true rfl)) dX11_twice_44 ⟨Nat.le_of_ble_eq_true rfl, Nat.le_of_ble_eq_true rfl⟩) hP hD hS hA (fun r_11 u H locs hw hP hD hS => ?_)
      try dsimp only at hw
      exact x_lretW (v := r_11) (u := t_10) hx hb hr hQ ⟨(show 0 ≤ ((t_10.1 22)).toInt ∧ ((t_10.1 22)).toInt ≤ 700 ∧ 0 ≤ ((t_10.1 81)).toInt ∧ ((t_10.1 81)).toInt ≤ 8 ∧ 0 ≤ ((t_10.1 82)).toInt ∧ ((t_10.1 82)).toInt ≤ 4 ∧ 0 ≤ ((t_10.1 85)).toInt ∧ ((t_10.1 85)).toInt ≤ 350 ∧ 0 ≤ ((t_10.1 86)).toInt ∧ ((t_10.1 86)).toInt ≤ 700 ∧ 0 ≤ ((t_10.1 105)).toInt ∧ ((t_10.1 105)).toInt ≤ 8 ∧ 0 ≤ ((t_10.1 137)).toInt ∧ ((t_10.1 137)).toInt ≤ 8 ∧ 0 ≤ ((t_10.1 139)).toInt ∧ ((t_10.1 139)).toInt ≤ 1359 ∧ 0 ≤ ((t_10.1 141)).toInt ∧ ((t_10.1 141)).toInt ≤ 12 ∧ 0 ≤ ((t_10.1 183)).toInt ∧ ((t_10.1 183)).toInt ≤ 8 ∧ 0 ≤ ((t_10.1 138)).toInt ∧ 0 ≤ ((t_10.1 106)).toInt ∧ ((t_10.1 106)).toInt ≤ ((t_10.1 107)).toInt ∧ ((t_10.1 107)).toInt ≤ 40 ∧ bI ((t_10.2.2.1 102)) 0 7 ∧ bI ((t_10.2.2.1 133)) 0 1358 ∧ bI ((t_10.2.2.1 134)) 0 1358 ∧ bI ((t_10.2.2.1 135)) 0 1358 ∧ bI ((t_10.2.2.1 153)) 0 1358 ∧ bI ((t_10.2.2.1 154)) 0 1358 ∧ bI ((t_10.2.2.1 155)) 0 1358 from ⟨by omega, by omega, by omega, by omega, by omega, by omega, by omega, by omega, by omega, by omega, by omega, by omega, by omega, by omega, by omega, by omega, by omega, by omega, by omega, by omega, by omega, by omega, by omega, by omega, bt_10_102, bt_10_133, bt_10_134, bt_10_135, bt_10_153, bt_10_154, bt_10_155⟩), (Int32.toInt_inj.mp (by omega))⟩ hP hD hK hS dX11_twice_47 hlocks
    · have kc_4 : r_3.toInt = 0 := by have h9 := c_4; simp only [ge_iff_le, gt_iff_lt, x_lt, x_le, x_eq, ne_eq, Int32.not_lt, Int32.not_le] at h9; simp only [Int32.reduceToInt] at h9; omega
      refine lv_ldc2 (v := (-2000000000)) hx hb hown (hts (.constantLong RX11 192 (-2000000000)) (List.mem_of_getElem? (i := 3) rfl)) dX11_twice_24 ?_
      exact x_lretW (v := (-2000000000)) (u := σ) hx hb hr hQ ⟨(show 0 ≤ ((σ.1 22)).toInt ∧ ((σ.1 22)).toInt ≤ 700 ∧ 0 ≤ ((σ.1 81)).toInt ∧ ((σ.1 81)).toInt ≤ 8 ∧ 0 ≤ ((σ.1 82)).toInt ∧ ((σ.1 82)).toInt ≤ 4 ∧ 0 ≤ ((σ.1 85)).toInt ∧ ((σ.1 85)).toInt ≤ 350 ∧ 0 ≤ ((σ.1 86)).toInt ∧ ((σ.1 86)).toInt ≤ 700 ∧ 0 ≤ ((σ.1 105)).toInt ∧ ((σ.1 105)).toInt ≤ 8 ∧ 0 ≤ ((σ.1 137)).toInt ∧ ((σ.1 137)).toInt ≤ 8 ∧ 0 ≤ ((σ.1 139)).toInt ∧ ((σ.1 139)).toInt ≤ 1359 ∧ 0 ≤ ((σ.1 141)).toInt ∧ ((σ.1 141)).toInt ≤ 12 ∧ 0 ≤ ((σ.1 183)).toInt ∧ ((σ.1 183)).toInt ≤ 8 ∧ 0 ≤ ((σ.1 138)).toInt ∧ 0 ≤ ((σ.1 106)).toInt ∧ ((σ.1 106)).toInt ≤ ((σ.1 107)).toInt ∧ ((σ.1 107)).toInt ≤ 40 ∧ bI ((σ.2.2.1 102)) 0 7 ∧ bI ((σ.2.2.1 133)) 0 1358 ∧ bI ((σ.2.2.1 134)) 0 1358 ∧ bI ((σ.2.2.1 135)) 0 1358 ∧ bI ((σ.2.2.1 153)) 0 1358 ∧ bI ((σ.2.2.1 154)) 0 1358 ∧ bI ((σ.2.2.1 155)) 0 1358 from ⟨by omega, by omega, by omega, by omega, by omega, by omega, by omega, by omega, by omega, by omega, by omega, by omega, by omega, by omega, by omega, by omega, by omega, by omega, by omega, by omega, by omega, by omega, by omega, by omega, hxb102, hxb133, hxb134, hxb135, hxb153, hxb154, hxb155⟩), rfl⟩ hP hD hK hS dX11_twice_27 hlocks

def v_x_m_moves : List Cond := .code yX11_moves cX11_moves 2 (some .int) :: ([.fieldLink RX11 61 "SlopeRunner" "latest" "LSlopeRunner$Tape;", .fieldLink RX11 40 "SlopeRunner" "slopes" "LSlopeRunner$Slopes;"] ++ ((wsV RX11 221 RX8 yX8_hasResult v_ka_hasResult) ++ ((wsV RX11 224 RX7 yX7_moverBits v_s_moverBits) ++ wsX110)))
theorem g_x_m_moves_0 : GoodIn v_x_m_moves (wsV RX11 221 RX8 yX8_hasResult v_ka_hasResult) := goodIn_sub (fun w h => List.mem_cons_of_mem _ (List.mem_append_right _ (List.mem_append_left _ h))) (by decide +kernel)
theorem g_x_m_moves_1 : GoodIn v_x_m_moves (wsV RX11 224 RX7 yX7_moverBits v_s_moverBits) := goodIn_sub (fun w h => List.mem_cons_of_mem _ (List.mem_append_right _ (List.mem_append_right _ (List.mem_append_left _ h)))) (by decide +kernel)
set_option maxHeartbeats 4000000 in
set_option maxRecDepth 100000 in
theorem x_m_moves (l : Launch) (D : va_G) (y : Nat → ClassId) (sz : Nat) (ad : Nat → Nat) (iv : Value) (pv : Value) (tv : Value) (kt : va_W) (σ : OS) (q : Int32) (hxi : XI σ) : Met l yX11_moves v_x_m_moves ({ frames := 3, cells := 0, slots := 0, locals := 66 } : Room) (va_Pc [.ref (ad 0), .int q] (xPre D (xT y) (xwd y ad iv pv tv kt σ) sz)) (va_Qi (fun (r : Int32) (u : OS) => XI u ∧ ((u.1 22) = σ.1 22)) (fun (u : OS) => xB D (xT y) (va_A (xwd y ad iv pv tv kt σ) sz) (xwd y ad iv pv tv kt u)) (va_A (xwd y ad iv pv tv kt σ) sz)) 0 0 (va_A (xwd y ad iv pv tv kt σ) sz) := by
  refine x_meti (cc := cX11_moves) (maxL := 2) (by decide) rfl (Nat.le_of_ble_eq_true rfl) ?_
  intro p e s m below meth c A H locs Q hx hb hml hown hts hr hlocks hmn hA hP hK hD hS ls hl hQ
  have hl : lv_has ls 2 [(0, .ref (ad 0)), (1, .int q)] := hl
  have fl61 := hts (.fieldLink RX11 61 "SlopeRunner" "latest" "LSlopeRunner$Tape;") (List.mem_of_getElem? (i := 1) rfl)
  have inX11 : ∀ w ∈ wsX110, w ∈ v_x_m_moves := (fun w h => List.mem_cons_of_mem _ (List.mem_append_right _ (List.mem_append_right _ (List.mem_append_right _ h))))
  have kk_0 : (0 : Int32).toInt = 0 := rfl
  have kk_m1 : ((-1) : Int32).toInt = -1 := rfl
  have fl40 := hts (.fieldLink RX11 40 "SlopeRunner" "slopes" "LSlopeRunner$Slopes;") (List.mem_of_getElem? (i := 2) rfl)
  obtain ⟨hxi0, hxi1, hxi2, hxi3, hxi4, hxi5, hxi6, hxi7, hxi8, hxi9, hxi10, hxi11, hxi12, hxi13, hxi14, hxi15, hxi16, hxi17, hxi18, hxi19, hxi20, hxi21, hxi22, hxi23, hxb102, hxb133, hxb134, hxb135, hxb153, hxb154, hxb155⟩ := hxi
  refine lv_aload_n hx hb dX11_moves_0 rfl (lv_at hl 0 rfl) ?_
  refine va_get (D := D) (ci := 10) (v := .ref (ad 130)) (C := RX11) (T := TX11) (N := 11) hx hb hts inX11 hown hK hP 0 xwd_o0 rfl 7 (by decide) fl61 (fun _ h9 => h9) rfl dX11_moves_1 ?_
  refine lv_iload_n hx hb dX11_moves_4 rfl (lv_at hl 1 rfl) ?_
  have hPs : va_P D vwCl (tpw y ad σ) H := x_suP hP [8, 35, 36, 37, 38, 39] rfl
  have hDs : va_D A (tpw y ad σ) := x_suD hD [8, 35, 36, 37, 38, 39] rfl (by decide)
  refine x_calliT (b1 := fun (u : Unit) => (xwd y ad iv pv tv kt σ)) [8, 35, 36, 37, 38, 39] [none, none, none, none, none, none, none, none, some 0, none, none, none, none, none, none, none, none, none, none, none, none, none, none, none, none, none, none, none, none, none, none, none, none, none, none, some 1, some 2, some 3, some 4, some 5, none, none, none, none, none, none, none, none, none, none, none, none] 6 (va_runV (As := [.int q]) (rest := []) ⟨hx, hb, hml, hown, hts⟩ (ka_hasResult l D y H.size ad σ q) (cwV 1 hts g_x_m_moves_0 rfl rfl rfl (by decide +kernel) ⟨Nat.le_of_ble_eq_true rfl, Nat.le_of_ble_eq_true rfl⟩) (x_preV (q := (RX8, TX8, 13)) hK hPs hDs (ci := 7) (q0 := 0) rfl tpw_o0) rfl rfl hl.1 rfl (lv_room (Nat.le_of_ble_eq_true rfl)) dX11_moves_5 ⟨Nat.le_of_ble_eq_true rfl, Nat.le_of_ble_eq_true rfl⟩) hP hD hS hA rfl (fun _ => xwd_in_tpw (agr_refl _ _)) (fun _ => rfl) (fun _ => rfl) rfl (fun r_1 u H locs hw hP hD hS => ?_)
  try dsimp only at hw
  have hP : va_P D vwCl (xwd y ad iv pv tv kt σ) H := hP
  have hD : va_D A (xwd y ad iv pv tv kt σ) := hD
  replace hw : (r_1.toInt = 1 ∧ 0 ≤ q.toInt ∧ q.toInt < ((σ.1 141)).toInt) ∨ r_1.toInt = 0 := hw
  refine lv_if_eq (tgt := 26) hx hb dX11_moves_8 (by decide) (fun c_2 => ?_) (fun c_2 => ?_)
  · have kc_2 : r_1.toInt = 0 := by have h9 := c_2; simp only [ge_iff_le, gt_iff_lt, x_lt, x_le, x_eq, ne_eq, Int32.not_lt, Int32.not_le] at h9; simp only [Int32.reduceToInt] at h9; omega
    refine lv_iconst (v := (-1)) hx hb dX11_moves_26 (by decide) ?_
    exact x_iretW (v := (-1)) (u := σ) hx hb hr hQ ⟨(show 0 ≤ ((σ.1 22)).toInt ∧ ((σ.1 22)).toInt ≤ 700 ∧ 0 ≤ ((σ.1 81)).toInt ∧ ((σ.1 81)).toInt ≤ 8 ∧ 0 ≤ ((σ.1 82)).toInt ∧ ((σ.1 82)).toInt ≤ 4 ∧ 0 ≤ ((σ.1 85)).toInt ∧ ((σ.1 85)).toInt ≤ 350 ∧ 0 ≤ ((σ.1 86)).toInt ∧ ((σ.1 86)).toInt ≤ 700 ∧ 0 ≤ ((σ.1 105)).toInt ∧ ((σ.1 105)).toInt ≤ 8 ∧ 0 ≤ ((σ.1 137)).toInt ∧ ((σ.1 137)).toInt ≤ 8 ∧ 0 ≤ ((σ.1 139)).toInt ∧ ((σ.1 139)).toInt ≤ 1359 ∧ 0 ≤ ((σ.1 141)).toInt ∧ ((σ.1 141)).toInt ≤ 12 ∧ 0 ≤ ((σ.1 183)).toInt ∧ ((σ.1 183)).toInt ≤ 8 ∧ 0 ≤ ((σ.1 138)).toInt ∧ 0 ≤ ((σ.1 106)).toInt ∧ ((σ.1 106)).toInt ≤ ((σ.1 107)).toInt ∧ ((σ.1 107)).toInt ≤ 40 ∧ bI ((σ.2.2.1 102)) 0 7 ∧ bI ((σ.2.2.1 133)) 0 1358 ∧ bI ((σ.2.2.1 134)) 0 1358 ∧ bI ((σ.2.2.1 135)) 0 1358 ∧ bI ((σ.2.2.1 153)) 0 1358 ∧ bI ((σ.2.2.1 154)) 0 1358 ∧ bI ((σ.2.2.1 155)) 0 1358 from ⟨by omega, by omega, by omega, by omega, by omega, by omega, by omega, by omega, by omega, by omega, by omega, by omega, by omega, by omega, by omega, by omega, by omega, by omega, by omega, by omega, by omega, by omega, by omega, by omega, hxb102, hxb133, hxb134, hxb135, hxb153, hxb154, hxb155⟩), rfl⟩ hP hD hK hS dX11_moves_27 hlocks
  · have kc_2 : r_1.toInt ≠ 0 := by have h9 := c_2; simp only [ge_iff_le, gt_iff_lt, x_lt, x_le, x_eq, ne_eq, Int32.not_lt, Int32.not_le] at h9; simp only [Int32.reduceToInt] at h9; omega
    refine lv_aload_n hx hb dX11_moves_11 rfl (lv_at hl 0 rfl) ?_
    refine va_get (D := D) (ci := 10) (v := .ref (ad 170)) (C := RX11) (T := TX11) (N := 11) hx hb hts inX11 hown hK hP 0 xwd_o0 rfl 4 (by decide) fl40 (fun _ h9 => h9) rfl dX11_moves_12 ?_
    refine lv_aload_n hx hb dX11_moves_15 rfl (lv_at hl 0 rfl) ?_
    refine va_get (D := D) (ci := 10) (v := .ref (ad 130)) (C := RX11) (T := TX11) (N := 11) hx hb hts inX11 hown hK hP 0 xwd_o0 rfl 7 (by decide) fl61 (fun _ h9 => h9) rfl dX11_moves_16 ?_
    refine lv_iload_n hx hb dX11_moves_19 rfl (lv_at hl 1 rfl) ?_
    have hPs : va_P D vwCl (slw y ad σ) H := x_suP hP [10, 8, 45, 46, 47, 48, 49, 35, 36, 37, 38, 39] rfl
    have hDs : va_D A (slw y ad σ) := x_suD hD [10, 8, 45, 46, 47, 48, 49, 35, 36, 37, 38, 39] rfl (by decide)
    refine x_calliT (b1 := fun (u : (Nat → Int32)) => (xwd y ad iv pv tv kt (tI σ 174 u))) [10, 8, 45, 46, 47, 48, 49, 35, 36, 37, 38, 39] [none, none, none, none, none, none, none, none, some 1, none, some 0, none, none, none, none, none, none, none, none, none, none, none, none, none, none, none, none, none, none, none, none, none, none, none, none, some 7, some 8, some 9, some 10, some 11, none, none, none, none, none, some 2, some 3, some 4, some 5, some 6, none, none] 12 (va_runV (As := [.ref (ad 130), .int q]) (rest := []) ⟨hx, hb, hml, hown, hts⟩ (s_moverBits l D y H.size ad σ q (show 0 ≤ ((σ.1 137)).toInt from by first | omega | decide) (show ((σ.1 137)).toInt ≤ 8 from by first | omega | decide) (show 0 ≤ ((σ.1 141)).toInt from by first | omega | decide) (show ((σ.1 141)).toInt ≤ 12 from by first | omega | decide) (show 0 ≤ ((σ.1 138)).toInt from by first | omega | decide) hxb133 hxb134 hxb135) (cwV 2 hts g_x_m_moves_1 rfl rfl rfl (by decide +kernel) ⟨Nat.le_of_ble_eq_true rfl, Nat.le_of_ble_eq_true rfl⟩) (x_preV (q := (RX7, TX7, 5)) hK hPs hDs (ci := 6) (q0 := 0) rfl slw_o0) rfl rfl hl.1 rfl (lv_room (Nat.le_of_ble_eq_true rfl)) dX11_moves_20 ⟨Nat.le_of_ble_eq_true rfl, Nat.le_of_ble_eq_true rfl⟩) hP hD hS hA rfl (fun _ => xwd_in_slw (agr_tI (agr_refl _ _) rfl)) (fun _ => rfl) (fun _ => rfl) rfl (fun r_3 u H locs hw hP hD hS => ?_)
    obtain ⟨f_4, rfl⟩ : ∃ z9, z9 = u := ⟨_, rfl⟩
    try dsimp only at hw
    have hP : va_P D vwCl (xwd y ad iv pv tv kt (tI σ 174 f_4)) H := hP
    have hD : va_D A (xwd y ad iv pv tv kt (tI σ 174 f_4)) := hD
    obtain ⟨t_5, et_5⟩ : ∃ z9 : OS, z9 = (tI σ 174 f_4) := ⟨_, rfl⟩
    rw [← et_5] at hP hD
    have qt_5_22 : (t_5.1 22).toInt = (σ.1 22).toInt := by rw [et_5]; rfl
    have qt_5_81 : (t_5.1 81).toInt = (σ.1 81).toInt := by rw [et_5]; rfl
    have qt_5_82 : (t_5.1 82).toInt = (σ.1 82).toInt := by rw [et_5]; rfl
    have qt_5_85 : (t_5.1 85).toInt = (σ.1 85).toInt := by rw [et_5]; rfl
    have qt_5_86 : (t_5.1 86).toInt = (σ.1 86).toInt := by rw [et_5]; rfl
    have qt_5_105 : (t_5.1 105).toInt = (σ.1 105).toInt := by rw [et_5]; rfl
    have qt_5_137 : (t_5.1 137).toInt = (σ.1 137).toInt := by rw [et_5]; rfl
    have qt_5_139 : (t_5.1 139).toInt = (σ.1 139).toInt := by rw [et_5]; rfl
    have qt_5_141 : (t_5.1 141).toInt = (σ.1 141).toInt := by rw [et_5]; rfl
    have qt_5_183 : (t_5.1 183).toInt = (σ.1 183).toInt := by rw [et_5]; rfl
    have qt_5_138 : (t_5.1 138).toInt = (σ.1 138).toInt := by rw [et_5]; rfl
    have qt_5_106 : (t_5.1 106).toInt = (σ.1 106).toInt := by rw [et_5]; rfl
    have qt_5_107 : (t_5.1 107).toInt = (σ.1 107).toInt := by rw [et_5]; rfl
    have bt_5_102 : bI (t_5.2.2.1 102) 0 7 := by rw [et_5]; exact hxb102
    have bt_5_133 : bI (t_5.2.2.1 133) 0 1358 := by rw [et_5]; exact hxb133
    have bt_5_134 : bI (t_5.2.2.1 134) 0 1358 := by rw [et_5]; exact hxb134
    have bt_5_135 : bI (t_5.2.2.1 135) 0 1358 := by rw [et_5]; exact hxb135
    have bt_5_153 : bI (t_5.2.2.1 153) 0 1358 := by rw [et_5]; exact hxb153
    have bt_5_154 : bI (t_5.2.2.1 154) 0 1358 := by rw [et_5]; exact hxb154
    have bt_5_155 : bI (t_5.2.2.1 155) 0 1358 := by rw [et_5]; exact hxb155
    have hP : va_P D vwCl (xwd y ad iv pv tv kt t_5) H := hP
    have hD : va_D A (xwd y ad iv pv tv kt t_5) := hD
    refine lv_goto (tgt := 27) hx hb dX11_moves_23 (by decide) ?_
    exact x_iretW (v := r_3) (u := t_5) hx hb hr hQ ⟨(show 0 ≤ ((t_5.1 22)).toInt ∧ ((t_5.1 22)).toInt ≤ 700 ∧ 0 ≤ ((t_5.1 81)).toInt ∧ ((t_5.1 81)).toInt ≤ 8 ∧ 0 ≤ ((t_5.1 82)).toInt ∧ ((t_5.1 82)).toInt ≤ 4 ∧ 0 ≤ ((t_5.1 85)).toInt ∧ ((t_5.1 85)).toInt ≤ 350 ∧ 0 ≤ ((t_5.1 86)).toInt ∧ ((t_5.1 86)).toInt ≤ 700 ∧ 0 ≤ ((t_5.1 105)).toInt ∧ ((t_5.1 105)).toInt ≤ 8 ∧ 0 ≤ ((t_5.1 137)).toInt ∧ ((t_5.1 137)).toInt ≤ 8 ∧ 0 ≤ ((t_5.1 139)).toInt ∧ ((t_5.1 139)).toInt ≤ 1359 ∧ 0 ≤ ((t_5.1 141)).toInt ∧ ((t_5.1 141)).toInt ≤ 12 ∧ 0 ≤ ((t_5.1 183)).toInt ∧ ((t_5.1 183)).toInt ≤ 8 ∧ 0 ≤ ((t_5.1 138)).toInt ∧ 0 ≤ ((t_5.1 106)).toInt ∧ ((t_5.1 106)).toInt ≤ ((t_5.1 107)).toInt ∧ ((t_5.1 107)).toInt ≤ 40 ∧ bI ((t_5.2.2.1 102)) 0 7 ∧ bI ((t_5.2.2.1 133)) 0 1358 ∧ bI ((t_5.2.2.1 134)) 0 1358 ∧ bI ((t_5.2.2.1 135)) 0 1358 ∧ bI ((t_5.2.2.1 153)) 0 1358 ∧ bI ((t_5.2.2.1 154)) 0 1358 ∧ bI ((t_5.2.2.1 155)) 0 1358 from ⟨by omega, by omega, by omega, by omega, by omega, by omega, by omega, by omega, by omega, by omega, by omega, by omega, by omega, by omega, by omega, by omega, by omega, by omega, by omega, by omega, by omega, by omega, by omega, by omega, bt_5_102, bt_5_133, bt_5_134, bt_5_135, bt_5_153, bt_5_154, bt_5_155⟩), (Int32.toInt_inj.mp (by omega))⟩ hP hD hK hS dX11_moves_27 hlocks

def v_x_m_ways : List Cond := .code yX11_ways cX11_ways 3 (some .int) :: ([.fieldLink RX11 61 "SlopeRunner" "latest" "LSlopeRunner$Tape;", .fieldLink RX11 40 "SlopeRunner" "slopes" "LSlopeRunner$Slopes;"] ++ ((wsV RX11 189 RX8 yX8_hasBoth v_ka_hasBoth) ++ ((wsV RX11 228 RX7 yX7_countWays v_s_countWays) ++ wsX110)))
theorem g_x_m_ways_0 : GoodIn v_x_m_ways (wsV RX11 189 RX8 yX8_hasBoth v_ka_hasBoth) := goodIn_sub (fun w h => List.mem_cons_of_mem _ (List.mem_append_right _ (List.mem_append_left _ h))) (by decide +kernel)
theorem g_x_m_ways_1 : GoodIn v_x_m_ways (wsV RX11 228 RX7 yX7_countWays v_s_countWays) := goodIn_sub (fun w h => List.mem_cons_of_mem _ (List.mem_append_right _ (List.mem_append_right _ (List.mem_append_left _ h)))) (by decide +kernel)
set_option maxHeartbeats 4000000 in
set_option maxRecDepth 100000 in
theorem x_m_ways (l : Launch) (D : va_G) (y : Nat → ClassId) (sz : Nat) (ad : Nat → Nat) (iv : Value) (pv : Value) (tv : Value) (kt : va_W) (σ : OS) (q i : Int32) (hxi : XI σ) : Met l yX11_ways v_x_m_ways ({ frames := 3, cells := 0, slots := 0, locals := 67 } : Room) (va_Pc [.ref (ad 0), .int q, .int i] (xPre D (xT y) (xwd y ad iv pv tv kt σ) sz)) (va_Qi (fun (r : Int32) (u : OS) => XI u ∧ ((u.1 22) = σ.1 22)) (fun (u : OS) => xB D (xT y) (va_A (xwd y ad iv pv tv kt σ) sz) (xwd y ad iv pv tv kt u)) (va_A (xwd y ad iv pv tv kt σ) sz)) 0 0 (va_A (xwd y ad iv pv tv kt σ) sz) := by
  refine x_meti (cc := cX11_ways) (maxL := 3) (by decide) rfl (Nat.le_of_ble_eq_true rfl) ?_
  intro p e s m below meth c A H locs Q hx hb hml hown hts hr hlocks hmn hA hP hK hD hS ls hl hQ
  have hl : lv_has ls 3 [(0, .ref (ad 0)), (1, .int q), (2, .int i)] := hl
  have fl61 := hts (.fieldLink RX11 61 "SlopeRunner" "latest" "LSlopeRunner$Tape;") (List.mem_of_getElem? (i := 1) rfl)
  have inX11 : ∀ w ∈ wsX110, w ∈ v_x_m_ways := (fun w h => List.mem_cons_of_mem _ (List.mem_append_right _ (List.mem_append_right _ (List.mem_append_right _ h))))
  have kk_0 : (0 : Int32).toInt = 0 := rfl
  have kk_m1 : ((-1) : Int32).toInt = -1 := rfl
  have fl40 := hts (.fieldLink RX11 40 "SlopeRunner" "slopes" "LSlopeRunner$Slopes;") (List.mem_of_getElem? (i := 2) rfl)
  obtain ⟨hxi0, hxi1, hxi2, hxi3, hxi4, hxi5, hxi6, hxi7, hxi8, hxi9, hxi10, hxi11, hxi12, hxi13, hxi14, hxi15, hxi16, hxi17, hxi18, hxi19, hxi20, hxi21, hxi22, hxi23, hxb102, hxb133, hxb134, hxb135, hxb153, hxb154, hxb155⟩ := hxi
  refine lv_aload_n hx hb dX11_ways_0 rfl (lv_at hl 0 rfl) ?_
  refine va_get (D := D) (ci := 10) (v := .ref (ad 130)) (C := RX11) (T := TX11) (N := 11) hx hb hts inX11 hown hK hP 0 xwd_o0 rfl 7 (by decide) fl61 (fun _ h9 => h9) rfl dX11_ways_1 ?_
  refine lv_iload_n hx hb dX11_ways_4 rfl (lv_at hl 1 rfl) ?_
  refine lv_iload_n hx hb dX11_ways_5 rfl (lv_at hl 2 rfl) ?_
  have hPs : va_P D vwCl (tpw y ad σ) H := x_suP hP [8, 35, 36, 37, 38, 39] rfl
  have hDs : va_D A (tpw y ad σ) := x_suD hD [8, 35, 36, 37, 38, 39] rfl (by decide)
  refine x_calliT (b1 := fun (u : Unit) => (xwd y ad iv pv tv kt σ)) [8, 35, 36, 37, 38, 39] [none, none, none, none, none, none, none, none, some 0, none, none, none, none, none, none, none, none, none, none, none, none, none, none, none, none, none, none, none, none, none, none, none, none, none, none, some 1, some 2, some 3, some 4, some 5, none, none, none, none, none, none, none, none, none, none, none, none] 6 (va_runV (As := [.int q, .int i]) (rest := []) ⟨hx, hb, hml, hown, hts⟩ (ka_hasBoth l D y H.size ad σ q i) (cwV 2 hts g_x_m_ways_0 rfl rfl rfl (by decide +kernel) ⟨Nat.le_of_ble_eq_true rfl, Nat.le_of_ble_eq_true rfl⟩) (x_preV (q := (RX8, TX8, 13)) hK hPs hDs (ci := 7) (q0 := 0) rfl tpw_o0) rfl rfl hl.1 rfl (lv_room (Nat.le_of_ble_eq_true rfl)) dX11_ways_6 ⟨Nat.le_of_ble_eq_true rfl, Nat.le_of_ble_eq_true rfl⟩) hP hD hS hA rfl (fun _ => xwd_in_tpw (agr_refl _ _)) (fun _ => rfl) (fun _ => rfl) rfl (fun r_1 u H locs hw hP hD hS => ?_)
  try dsimp only at hw
  have hP : va_P D vwCl (xwd y ad iv pv tv kt σ) H := hP
  have hD : va_D A (xwd y ad iv pv tv kt σ) := hD
  replace hw : (r_1.toInt = 1 ∧ 0 ≤ q.toInt ∧ q.toInt < ((σ.1 141)).toInt ∧ 0 ≤ i.toInt ∧ i.toInt < ((σ.1 137)).toInt) ∨ r_1.toInt = 0 := hw
  refine lv_if_eq (tgt := 28) hx hb dX11_ways_9 (by decide) (fun c_2 => ?_) (fun c_2 => ?_)
  · have kc_2 : r_1.toInt = 0 := by have h9 := c_2; simp only [ge_iff_le, gt_iff_lt, x_lt, x_le, x_eq, ne_eq, Int32.not_lt, Int32.not_le] at h9; simp only [Int32.reduceToInt] at h9; omega
    refine lv_iconst (v := (-1)) hx hb dX11_ways_28 (by decide) ?_
    exact x_iretW (v := (-1)) (u := σ) hx hb hr hQ ⟨(show 0 ≤ ((σ.1 22)).toInt ∧ ((σ.1 22)).toInt ≤ 700 ∧ 0 ≤ ((σ.1 81)).toInt ∧ ((σ.1 81)).toInt ≤ 8 ∧ 0 ≤ ((σ.1 82)).toInt ∧ ((σ.1 82)).toInt ≤ 4 ∧ 0 ≤ ((σ.1 85)).toInt ∧ ((σ.1 85)).toInt ≤ 350 ∧ 0 ≤ ((σ.1 86)).toInt ∧ ((σ.1 86)).toInt ≤ 700 ∧ 0 ≤ ((σ.1 105)).toInt ∧ ((σ.1 105)).toInt ≤ 8 ∧ 0 ≤ ((σ.1 137)).toInt ∧ ((σ.1 137)).toInt ≤ 8 ∧ 0 ≤ ((σ.1 139)).toInt ∧ ((σ.1 139)).toInt ≤ 1359 ∧ 0 ≤ ((σ.1 141)).toInt ∧ ((σ.1 141)).toInt ≤ 12 ∧ 0 ≤ ((σ.1 183)).toInt ∧ ((σ.1 183)).toInt ≤ 8 ∧ 0 ≤ ((σ.1 138)).toInt ∧ 0 ≤ ((σ.1 106)).toInt ∧ ((σ.1 106)).toInt ≤ ((σ.1 107)).toInt ∧ ((σ.1 107)).toInt ≤ 40 ∧ bI ((σ.2.2.1 102)) 0 7 ∧ bI ((σ.2.2.1 133)) 0 1358 ∧ bI ((σ.2.2.1 134)) 0 1358 ∧ bI ((σ.2.2.1 135)) 0 1358 ∧ bI ((σ.2.2.1 153)) 0 1358 ∧ bI ((σ.2.2.1 154)) 0 1358 ∧ bI ((σ.2.2.1 155)) 0 1358 from ⟨by omega, by omega, by omega, by omega, by omega, by omega, by omega, by omega, by omega, by omega, by omega, by omega, by omega, by omega, by omega, by omega, by omega, by omega, by omega, by omega, by omega, by omega, by omega, by omega, hxb102, hxb133, hxb134, hxb135, hxb153, hxb154, hxb155⟩), rfl⟩ hP hD hK hS dX11_ways_29 hlocks
  · have kc_2 : r_1.toInt ≠ 0 := by have h9 := c_2; simp only [ge_iff_le, gt_iff_lt, x_lt, x_le, x_eq, ne_eq, Int32.not_lt, Int32.not_le] at h9; simp only [Int32.reduceToInt] at h9; omega
    refine lv_aload_n hx hb dX11_ways_12 rfl (lv_at hl 0 rfl) ?_
    refine va_get (D := D) (ci := 10) (v := .ref (ad 170)) (C := RX11) (T := TX11) (N := 11) hx hb hts inX11 hown hK hP 0 xwd_o0 rfl 4 (by decide) fl40 (fun _ h9 => h9) rfl dX11_ways_13 ?_
    refine lv_aload_n hx hb dX11_ways_16 rfl (lv_at hl 0 rfl) ?_
    refine va_get (D := D) (ci := 10) (v := .ref (ad 130)) (C := RX11) (T := TX11) (N := 11) hx hb hts inX11 hown hK hP 0 xwd_o0 rfl 7 (by decide) fl61 (fun _ h9 => h9) rfl dX11_ways_17 ?_
    refine lv_iload_n hx hb dX11_ways_20 rfl (lv_at hl 1 rfl) ?_
    refine lv_iload_n hx hb dX11_ways_21 rfl (lv_at hl 2 rfl) ?_
    have hPs : va_P D vwCl (slw y ad σ) H := x_suP hP [10, 8, 45, 46, 47, 48, 49, 35, 36, 37, 38, 39] rfl
    have hDs : va_D A (slw y ad σ) := x_suD hD [10, 8, 45, 46, 47, 48, 49, 35, 36, 37, 38, 39] rfl (by decide)
    refine x_calliT (b1 := fun (u : (Nat → Int32)) => (xwd y ad iv pv tv kt (tI σ 174 u))) [10, 8, 45, 46, 47, 48, 49, 35, 36, 37, 38, 39] [none, none, none, none, none, none, none, none, some 1, none, some 0, none, none, none, none, none, none, none, none, none, none, none, none, none, none, none, none, none, none, none, none, none, none, none, none, some 7, some 8, some 9, some 10, some 11, none, none, none, none, none, some 2, some 3, some 4, some 5, some 6, none, none] 12 (va_runV (As := [.ref (ad 130), .int q, .int i]) (rest := []) ⟨hx, hb, hml, hown, hts⟩ (s_countWays l D y H.size ad σ q i (show 0 ≤ ((σ.1 137)).toInt from by first | omega | decide) (show ((σ.1 137)).toInt ≤ 8 from by first | omega | decide) (show 0 ≤ ((σ.1 141)).toInt from by first | omega | decide) (show ((σ.1 141)).toInt ≤ 12 from by first | omega | decide) (show 0 ≤ ((σ.1 138)).toInt from by first | omega | decide) hxb133 hxb134 hxb135) (cwV 3 hts g_x_m_ways_1 rfl rfl rfl (by decide +kernel) ⟨Nat.le_of_ble_eq_true rfl, Nat.le_of_ble_eq_true rfl⟩) (x_preV (q := (RX7, TX7, 5)) hK hPs hDs (ci := 6) (q0 := 0) rfl slw_o0) rfl rfl hl.1 rfl (lv_room (Nat.le_of_ble_eq_true rfl)) dX11_ways_22 ⟨Nat.le_of_ble_eq_true rfl, Nat.le_of_ble_eq_true rfl⟩) hP hD hS hA rfl (fun _ => xwd_in_slw (agr_tI (agr_refl _ _) rfl)) (fun _ => rfl) (fun _ => rfl) rfl (fun r_3 u H locs hw hP hD hS => ?_)
    obtain ⟨f_4, rfl⟩ : ∃ z9, z9 = u := ⟨_, rfl⟩
    try dsimp only at hw
    have hP : va_P D vwCl (xwd y ad iv pv tv kt (tI σ 174 f_4)) H := hP
    have hD : va_D A (xwd y ad iv pv tv kt (tI σ 174 f_4)) := hD
    obtain ⟨t_5, et_5⟩ : ∃ z9 : OS, z9 = (tI σ 174 f_4) := ⟨_, rfl⟩
    rw [← et_5] at hP hD
    have qt_5_22 : (t_5.1 22).toInt = (σ.1 22).toInt := by rw [et_5]; rfl
    have qt_5_81 : (t_5.1 81).toInt = (σ.1 81).toInt := by rw [et_5]; rfl
    have qt_5_82 : (t_5.1 82).toInt = (σ.1 82).toInt := by rw [et_5]; rfl
    have qt_5_85 : (t_5.1 85).toInt = (σ.1 85).toInt := by rw [et_5]; rfl
    have qt_5_86 : (t_5.1 86).toInt = (σ.1 86).toInt := by rw [et_5]; rfl
    have qt_5_105 : (t_5.1 105).toInt = (σ.1 105).toInt := by rw [et_5]; rfl
    have qt_5_137 : (t_5.1 137).toInt = (σ.1 137).toInt := by rw [et_5]; rfl
    have qt_5_139 : (t_5.1 139).toInt = (σ.1 139).toInt := by rw [et_5]; rfl
    have qt_5_141 : (t_5.1 141).toInt = (σ.1 141).toInt := by rw [et_5]; rfl
    have qt_5_183 : (t_5.1 183).toInt = (σ.1 183).toInt := by rw [et_5]; rfl
    have qt_5_138 : (t_5.1 138).toInt = (σ.1 138).toInt := by rw [et_5]; rfl
    have qt_5_106 : (t_5.1 106).toInt = (σ.1 106).toInt := by rw [et_5]; rfl
    have qt_5_107 : (t_5.1 107).toInt = (σ.1 107).toInt := by rw [et_5]; rfl
    have bt_5_102 : bI (t_5.2.2.1 102) 0 7 := by rw [et_5]; exact hxb102
    have bt_5_133 : bI (t_5.2.2.1 133) 0 1358 := by rw [et_5]; exact hxb133
    have bt_5_134 : bI (t_5.2.2.1 134) 0 1358 := by rw [et_5]; exact hxb134
    have bt_5_135 : bI (t_5.2.2.1 135) 0 1358 := by rw [et_5]; exact hxb135
    have bt_5_153 : bI (t_5.2.2.1 153) 0 1358 := by rw [et_5]; exact hxb153
    have bt_5_154 : bI (t_5.2.2.1 154) 0 1358 := by rw [et_5]; exact hxb154
    have bt_5_155 : bI (t_5.2.2.1 155) 0 1358 := by rw [et_5]; exact hxb155
    have hP : va_P D vwCl (xwd y ad iv pv tv kt t_5) H := hP
    have hD : va_D A (xwd y ad iv pv tv kt t_5) := hD
    refine lv_goto (tgt := 29) hx hb dX11_ways_25 (by decide) ?_
    exact x_iretW (v := r_3) (u := t_5) hx hb hr hQ ⟨(show 0 ≤ ((t_5.1 22)).toInt ∧ ((t_5.1 22)).toInt ≤ 700 ∧ 0 ≤ ((t_5.1 81)).toInt ∧ ((t_5.1 81)).toInt ≤ 8 ∧ 0 ≤ ((t_5.1 82)).toInt ∧ ((t_5.1 82)).toInt ≤ 4 ∧ 0 ≤ ((t_5.1 85)).toInt ∧ ((t_5.1 85)).toInt ≤ 350 ∧ 0 ≤ ((t_5.1 86)).toInt ∧ ((t_5.1 86)).toInt ≤ 700 ∧ 0 ≤ ((t_5.1 105)).toInt ∧ ((t_5.1 105)).toInt ≤ 8 ∧ 0 ≤ ((t_5.1 137)).toInt ∧ ((t_5.1 137)).toInt ≤ 8 ∧ 0 ≤ ((t_5.1 139)).toInt ∧ ((t_5.1 139)).toInt ≤ 1359 ∧ 0 ≤ ((t_5.1 141)).toInt ∧ ((t_5.1 141)).toInt ≤ 12 ∧ 0 ≤ ((t_5.1 183)).toInt ∧ ((t_5.1 183)).toInt ≤ 8 ∧ 0 ≤ ((t_5.1 138)).toInt ∧ 0 ≤ ((t_5.1 106)).toInt ∧ ((t_5.1 106)).toInt ≤ ((t_5.1 107)).toInt ∧ ((t_5.1 107)).toInt ≤ 40 ∧ bI ((t_5.2.2.1 102)) 0 7 ∧ bI ((t_5.2.2.1 133)) 0 1358 ∧ bI ((t_5.2.2.1 134)) 0 1358 ∧ bI ((t_5.2.2.1 135)) 0 1358 ∧ bI ((t_5.2.2.1 153)) 0 1358 ∧ bI ((t_5.2.2.1 154)) 0 1358 ∧ bI ((t_5.2.2.1 155)) 0 1358 from ⟨by omega, by omega, by omega, by omega, by omega, by omega, by omega, by omega, by omega, by omega, by omega, by omega, by omega, by omega, by omega, by omega, by omega, by omega, by omega, by omega, by omega, by omega, by omega, by omega, bt_5_102, bt_5_133, bt_5_134, bt_5_135, bt_5_153, bt_5_154, bt_5_155⟩), (Int32.toInt_inj.mp (by omega))⟩ hP hD hK hS dX11_ways_29 hlocks

def v_x_m_group : List Cond := .code yX11_group cX11_group 2 (some .int) :: ([.fieldLink RX11 47 "SlopeRunner" "grouping" "LSlopeRunner$Grouping;"] ++ ((wsV RX11 240 RX1 yX1_groupOf v_g_groupOf) ++ wsX110))
theorem g_x_m_group_0 : GoodIn v_x_m_group (wsV RX11 240 RX1 yX1_groupOf v_g_groupOf) := goodIn_sub (fun w h => List.mem_cons_of_mem _ (List.mem_append_right _ (List.mem_append_left _ h))) (by decide +kernel)
set_option maxHeartbeats 4000000 in
set_option maxRecDepth 100000 in
theorem x_m_group (l : Launch) (D : va_G) (y : Nat → ClassId) (sz : Nat) (ad : Nat → Nat) (iv : Value) (pv : Value) (tv : Value) (kt : va_W) (σ : OS) (q : Int32) (hxi : XI σ) : Met l yX11_group v_x_m_group ({ frames := 1, cells := 0, slots := 0, locals := 21 } : Room) (va_Pc [.ref (ad 0), .int q] (xPre D (xT y) (xwd y ad iv pv tv kt σ) sz)) (va_Qi (fun (r : Int32) (u : OS) => XI u ∧ ((u.1 22) = σ.1 22)) (fun (u : OS) => xB D (xT y) (va_A (xwd y ad iv pv tv kt σ) sz) (xwd y ad iv pv tv kt u)) (va_A (xwd y ad iv pv tv kt σ) sz)) 0 0 (va_A (xwd y ad iv pv tv kt σ) sz) := by
  refine x_meti (cc := cX11_group) (maxL := 2) (by decide) rfl (Nat.le_of_ble_eq_true rfl) ?_
  intro p e s m below meth c A H locs Q hx hb hml hown hts hr hlocks hmn hA hP hK hD hS ls hl hQ
  have hl : lv_has ls 2 [(0, .ref (ad 0)), (1, .int q)] := hl
  have fl47 := hts (.fieldLink RX11 47 "SlopeRunner" "grouping" "LSlopeRunner$Grouping;") (List.mem_of_getElem? (i := 1) rfl)
  have inX11 : ∀ w ∈ wsX110, w ∈ v_x_m_group := (fun w h => List.mem_cons_of_mem _ (List.mem_append_right _ (List.mem_append_right _ h)))
  obtain ⟨hxi0, hxi1, hxi2, hxi3, hxi4, hxi5, hxi6, hxi7, hxi8, hxi9, hxi10, hxi11, hxi12, hxi13, hxi14, hxi15, hxi16, hxi17, hxi18, hxi19, hxi20, hxi21, hxi22, hxi23, hxb102, hxb133, hxb134, hxb135, hxb153, hxb154, hxb155⟩ := hxi
  refine lv_aload_n hx hb dX11_group_0 rfl (lv_at hl 0 rfl) ?_
  refine va_get (D := D) (ci := 10) (v := .ref (ad 180)) (C := RX11) (T := TX11) (N := 11) hx hb hts inX11 hown hK hP 0 xwd_o0 rfl 5 (by decide) fl47 (fun _ h9 => h9) rfl dX11_group_1 ?_
  refine lv_iload_n hx hb dX11_group_4 rfl (lv_at hl 1 rfl) ?_
  have hPs : va_P D vwCl (grw y ad σ) H := x_suP hP [11, 50, 51] rfl
  have hDs : va_D A (grw y ad σ) := x_suD hD [11, 50, 51] rfl (by decide)
  refine x_calliT (b1 := fun (u : Unit) => (xwd y ad iv pv tv kt σ)) [11, 50, 51] [none, none, none, none, none, none, none, none, none, none, none, some 0, none, none, none, none, none, none, none, none, none, none, none, none, none, none, none, none, none, none, none, none, none, none, none, none, none, none, none, none, none, none, none, none, none, none, none, none, none, none, some 1, some 2] 3 (va_runV (As := [.int q]) (rest := []) ⟨hx, hb, hml, hown, hts⟩ (g_groupOf l D y H.size ad σ q (show 0 ≤ ((σ.1 183)).toInt from by first | omega | decide) (show ((σ.1 183)).toInt ≤ 8 from by first | omega | decide)) (cwV 1 hts g_x_m_group_0 rfl rfl rfl (by decide +kernel) ⟨Nat.le_of_ble_eq_true rfl, Nat.le_of_ble_eq_true rfl⟩) (x_preV (q := (RX1, TX1, 3)) hK hPs hDs (ci := 0) (q0 := 0) rfl grw_o0) rfl rfl hl.1 rfl (lv_room (Nat.le_of_ble_eq_true rfl)) dX11_group_5 ⟨Nat.le_of_ble_eq_true rfl, Nat.le_of_ble_eq_true rfl⟩) hP hD hS hA rfl (fun _ => xwd_in_grw (agr_refl _ _)) (fun _ => rfl) (fun _ => rfl) rfl (fun r_1 u H locs hw hP hD hS => ?_)
  try dsimp only at hw
  have hP : va_P D vwCl (xwd y ad iv pv tv kt σ) H := hP
  have hD : va_D A (xwd y ad iv pv tv kt σ) := hD
  exact x_iretW (v := r_1) (u := σ) hx hb hr hQ ⟨(show 0 ≤ ((σ.1 22)).toInt ∧ ((σ.1 22)).toInt ≤ 700 ∧ 0 ≤ ((σ.1 81)).toInt ∧ ((σ.1 81)).toInt ≤ 8 ∧ 0 ≤ ((σ.1 82)).toInt ∧ ((σ.1 82)).toInt ≤ 4 ∧ 0 ≤ ((σ.1 85)).toInt ∧ ((σ.1 85)).toInt ≤ 350 ∧ 0 ≤ ((σ.1 86)).toInt ∧ ((σ.1 86)).toInt ≤ 700 ∧ 0 ≤ ((σ.1 105)).toInt ∧ ((σ.1 105)).toInt ≤ 8 ∧ 0 ≤ ((σ.1 137)).toInt ∧ ((σ.1 137)).toInt ≤ 8 ∧ 0 ≤ ((σ.1 139)).toInt ∧ ((σ.1 139)).toInt ≤ 1359 ∧ 0 ≤ ((σ.1 141)).toInt ∧ ((σ.1 141)).toInt ≤ 12 ∧ 0 ≤ ((σ.1 183)).toInt ∧ ((σ.1 183)).toInt ≤ 8 ∧ 0 ≤ ((σ.1 138)).toInt ∧ 0 ≤ ((σ.1 106)).toInt ∧ ((σ.1 106)).toInt ≤ ((σ.1 107)).toInt ∧ ((σ.1 107)).toInt ≤ 40 ∧ bI ((σ.2.2.1 102)) 0 7 ∧ bI ((σ.2.2.1 133)) 0 1358 ∧ bI ((σ.2.2.1 134)) 0 1358 ∧ bI ((σ.2.2.1 135)) 0 1358 ∧ bI ((σ.2.2.1 153)) 0 1358 ∧ bI ((σ.2.2.1 154)) 0 1358 ∧ bI ((σ.2.2.1 155)) 0 1358 from ⟨by omega, by omega, by omega, by omega, by omega, by omega, by omega, by omega, by omega, by omega, by omega, by omega, by omega, by omega, by omega, by omega, by omega, by omega, by omega, by omega, by omega, by omega, by omega, by omega, hxb102, hxb133, hxb134, hxb135, hxb153, hxb154, hxb155⟩), rfl⟩ hP hD hK hS dX11_group_8 hlocks

def v_x_m_groups : List Cond := .code yX11_groups cX11_groups 2 (some .int) :: ([.fieldLink RX11 61 "SlopeRunner" "latest" "LSlopeRunner$Tape;", .fieldLink RX11 168 "SlopeRunner$Tape" "state" "I", .fieldLink RX11 47 "SlopeRunner" "grouping" "LSlopeRunner$Grouping;", .fieldLink RX11 232 "SlopeRunner$Tape" "inputs" "I", .fieldLink RX11 176 "SlopeRunner$Tape" "results" "I", .fieldLink RX11 40 "SlopeRunner" "slopes" "LSlopeRunner$Slopes;"] ++ ((wsV RX11 233 RX1 yX1_begin v_g_begin) ++ ((wsV RX11 237 RX1 yX1_settle v_g_settle) ++ ((wsV RX11 224 RX7 yX7_moverBits v_s_moverBits) ++ ((wsV RX11 234 RX1 yX1_keepApart v_g_keepApart) ++ (wsX110 ++ wsX80))))))
theorem g_x_m_groups_0 : GoodIn v_x_m_groups (wsV RX11 233 RX1 yX1_begin v_g_begin) := goodIn_sub (fun w h => List.mem_cons_of_mem _ (List.mem_append_right _ (List.mem_append_left _ h))) (by decide +kernel)
theorem g_x_m_groups_1 : GoodIn v_x_m_groups (wsV RX11 237 RX1 yX1_settle v_g_settle) := goodIn_sub (fun w h => List.mem_cons_of_mem _ (List.mem_append_right _ (List.mem_append_right _ (List.mem_append_left _ h)))) (by decide +kernel)
theorem g_x_m_groups_2 : GoodIn v_x_m_groups (wsV RX11 224 RX7 yX7_moverBits v_s_moverBits) := goodIn_sub (fun w h => List.mem_cons_of_mem _ (List.mem_append_right _ (List.mem_append_right _ (List.mem_append_right _ (List.mem_append_left _ h))))) (by decide +kernel)
theorem g_x_m_groups_3 : GoodIn v_x_m_groups (wsV RX11 234 RX1 yX1_keepApart v_g_keepApart) := goodIn_sub (fun w h => List.mem_cons_of_mem _ (List.mem_append_right _ (List.mem_append_right _ (List.mem_append_right _ (List.mem_append_right _ (List.mem_append_left _ h)))))) (by decide +kernel)
set_option maxHeartbeats 4000000 in
set_option maxRecDepth 100000 in
theorem x_m_groups (l : Launch) (D : va_G) (y : Nat → ClassId) (sz : Nat) (ad : Nat → Nat) (iv : Value) (pv : Value) (tv : Value) (kt : va_W) (σ : OS) (hxi : XI σ) : Met l yX11_groups v_x_m_groups ({ frames := 10, cells := 0, slots := 0, locals := 237 } : Room) (va_Pc [.ref (ad 0)] (xPre D (xT y) (xwd y ad iv pv tv kt σ) sz)) (va_Qi (fun (r : Int32) (u : OS) => XI u ∧ ((u.1 22) = σ.1 22)) (fun (u : OS) => xB D (xT y) (va_A (xwd y ad iv pv tv kt σ) sz) (xwd y ad iv pv tv kt u)) (va_A (xwd y ad iv pv tv kt σ) sz)) 0 0 (va_A (xwd y ad iv pv tv kt σ) sz) := by
  refine x_meti (cc := cX11_groups) (maxL := 2) (by decide) rfl (Nat.le_of_ble_eq_true rfl) ?_
  intro p e s m below meth c A H locs Q hx hb hml hown hts hr hlocks hmn hA hP hK hD hS ls hl hQ
  have hl : lv_has ls 2 [(0, .ref (ad 0))] := hl
  have fl61 := hts (.fieldLink RX11 61 "SlopeRunner" "latest" "LSlopeRunner$Tape;") (List.mem_of_getElem? (i := 1) rfl)
  have inX11 : ∀ w ∈ wsX110, w ∈ v_x_m_groups := (fun w h => List.mem_cons_of_mem _ (List.mem_append_right _ (List.mem_append_right _ (List.mem_append_right _ (List.mem_append_right _ (List.mem_append_right _ (List.mem_append_left _ h)))))))
  have fl168 := hts (.fieldLink RX11 168 "SlopeRunner$Tape" "state" "I") (List.mem_of_getElem? (i := 2) rfl)
  have inX8 : ∀ w ∈ wsX80, w ∈ v_x_m_groups := (fun w h => List.mem_cons_of_mem _ (List.mem_append_right _ (List.mem_append_right _ (List.mem_append_right _ (List.mem_append_right _ (List.mem_append_right _ (List.mem_append_right _ h)))))))
  have kk_m1 : ((-1) : Int32).toInt = -1 := rfl
  have fl47 := hts (.fieldLink RX11 47 "SlopeRunner" "grouping" "LSlopeRunner$Grouping;") (List.mem_of_getElem? (i := 3) rfl)
  have fl232 := hts (.fieldLink RX11 232 "SlopeRunner$Tape" "inputs" "I") (List.mem_of_getElem? (i := 4) rfl)
  have fl176 := hts (.fieldLink RX11 176 "SlopeRunner$Tape" "results" "I") (List.mem_of_getElem? (i := 5) rfl)
  have fl40 := hts (.fieldLink RX11 40 "SlopeRunner" "slopes" "LSlopeRunner$Slopes;") (List.mem_of_getElem? (i := 6) rfl)
  have kk_1 : (1 : Int32).toInt = 1 := rfl
  obtain ⟨hxi0, hxi1, hxi2, hxi3, hxi4, hxi5, hxi6, hxi7, hxi8, hxi9, hxi10, hxi11, hxi12, hxi13, hxi14, hxi15, hxi16, hxi17, hxi18, hxi19, hxi20, hxi21, hxi22, hxi23, hxb102, hxb133, hxb134, hxb135, hxb153, hxb154, hxb155⟩ := hxi
  refine lv_aload_n hx hb dX11_groups_0 rfl (lv_at hl 0 rfl) ?_
  refine va_get (D := D) (ci := 10) (v := .ref (ad 130)) (C := RX11) (T := TX11) (N := 11) hx hb hts inX11 hown hK hP 0 xwd_o0 rfl 7 (by decide) fl61 (fun _ h9 => h9) rfl dX11_groups_1 ?_
  refine va_get (D := D) (ci := 7) (v := .int (σ.1 136)) (C := RX8) (T := TX8) (N := 13) hx hb hts inX8 hown hK hP 8 xwd_o8 rfl 5 (by decide) fl168 (fun _ h9 => h9) rfl dX11_groups_4 ?_
  refine lv_iconst (v := (-1)) hx hb dX11_groups_7 (by decide) ?_
  refine lv_icmp_ne (tgt := 13) hx hb dX11_groups_8 (by decide) (fun c_1 => ?_) (fun c_1 => ?_)
  · have kc_1 : (σ.1 136).toInt ≠ (-1) := by have h9 := c_1; simp only [ge_iff_le, gt_iff_lt, x_lt, x_le, x_eq, ne_eq, Int32.not_lt, Int32.not_le] at h9; simp only [Int32.reduceToInt] at h9; omega
    refine lv_aload_n hx hb dX11_groups_13 rfl (lv_at hl 0 rfl) ?_
    refine va_get (D := D) (ci := 10) (v := .ref (ad 180)) (C := RX11) (T := TX11) (N := 11) hx hb hts inX11 hown hK hP 0 xwd_o0 rfl 5 (by decide) fl47 (fun _ h9 => h9) rfl dX11_groups_14 ?_
    refine lv_aload_n hx hb dX11_groups_17 rfl (lv_at hl 0 rfl) ?_
    refine va_get (D := D) (ci := 10) (v := .ref (ad 130)) (C := RX11) (T := TX11) (N := 11) hx hb hts inX11 hown hK hP 0 xwd_o0 rfl 7 (by decide) fl61 (fun _ h9 => h9) rfl dX11_groups_18 ?_
    refine va_get (D := D) (ci := 7) (v := .int (σ.1 137)) (C := RX8) (T := TX8) (N := 13) hx hb hts inX8 hown hK hP 8 xwd_o8 rfl 6 (by decide) fl232 (fun _ h9 => h9) rfl dX11_groups_21 ?_
    have hPs : va_P D vwCl (grw y ad σ) H := x_suP hP [11, 50, 51] rfl
    have hDs : va_D A (grw y ad σ) := x_suD hD [11, 50, 51] rfl (by decide)
    refine x_callvT (b1 := fun (u : Int32 × (Nat → Int32)) => (xwd y ad iv pv tv kt (tI (sI σ 183 u.1) 182 u.2))) [11, 50, 51] [none, none, none, none, none, none, none, none, none, none, none, some 0, none, none, none, none, none, none, none, none, none, none, none, none, none, none, none, none, none, none, none, none, none, none, none, none, none, none, none, none, none, none, none, none, none, none, none, none, none, none, some 1, some 2] 3 (va_runV (As := [.int (σ.1 137)]) (rest := []) ⟨hx, hb, hml, hown, hts⟩ (g_begin l D y H.size ad σ (σ.1 137)) (cwV 1 hts g_x_m_groups_0 rfl rfl rfl (by decide +kernel) ⟨Nat.le_of_ble_eq_true rfl, Nat.le_of_ble_eq_true rfl⟩) (x_preV (q := (RX1, TX1, 3)) hK hPs hDs (ci := 0) (q0 := 0) rfl grw_o0) rfl rfl hl.1 rfl (lv_room (Nat.le_of_ble_eq_true rfl)) dX11_groups_24 ⟨Nat.le_of_ble_eq_true rfl, Nat.le_of_ble_eq_true rfl⟩) hP hD hS hA rfl (fun _ => xwd_in_grw (agr_tI (agr_sI (agr_refl _ _) rfl) rfl)) (fun _ => rfl) (fun _ => rfl) rfl (fun u H locs hw hP hD hS => ?_)
    obtain ⟨n_2, f_3⟩ := u
    try dsimp only at hw
    have hP : va_P D vwCl (xwd y ad iv pv tv kt (tI (sI σ 183 n_2) 182 f_3)) H := hP
    have hD : va_D A (xwd y ad iv pv tv kt (tI (sI σ 183 n_2) 182 f_3)) := hD
    replace hw : 0 ≤ n_2.toInt ∧ n_2.toInt ≤ 8 := hw
    obtain ⟨t_4, et_4⟩ : ∃ z9 : OS, z9 = (tI (sI σ 183 n_2) 182 f_3) := ⟨_, rfl⟩
    rw [← et_4] at hP hD
    have qt_4_22 : (t_4.1 22).toInt = (σ.1 22).toInt := by rw [et_4]; rfl
    have qt_4_81 : (t_4.1 81).toInt = (σ.1 81).toInt := by rw [et_4]; rfl
    have qt_4_82 : (t_4.1 82).toInt = (σ.1 82).toInt := by rw [et_4]; rfl
    have qt_4_85 : (t_4.1 85).toInt = (σ.1 85).toInt := by rw [et_4]; rfl
    have qt_4_86 : (t_4.1 86).toInt = (σ.1 86).toInt := by rw [et_4]; rfl
    have qt_4_105 : (t_4.1 105).toInt = (σ.1 105).toInt := by rw [et_4]; rfl
    have qt_4_137 : (t_4.1 137).toInt = (σ.1 137).toInt := by rw [et_4]; rfl
    have qt_4_139 : (t_4.1 139).toInt = (σ.1 139).toInt := by rw [et_4]; rfl
    have qt_4_141 : (t_4.1 141).toInt = (σ.1 141).toInt := by rw [et_4]; rfl
    have qt_4_183 : (t_4.1 183).toInt = n_2.toInt := by rw [et_4]; rfl
    have qt_4_138 : (t_4.1 138).toInt = (σ.1 138).toInt := by rw [et_4]; rfl
    have qt_4_106 : (t_4.1 106).toInt = (σ.1 106).toInt := by rw [et_4]; rfl
    have qt_4_107 : (t_4.1 107).toInt = (σ.1 107).toInt := by rw [et_4]; rfl
    have bt_4_102 : bI (t_4.2.2.1 102) 0 7 := by rw [et_4]; exact hxb102
    have bt_4_133 : bI (t_4.2.2.1 133) 0 1358 := by rw [et_4]; exact hxb133
    have bt_4_134 : bI (t_4.2.2.1 134) 0 1358 := by rw [et_4]; exact hxb134
    have bt_4_135 : bI (t_4.2.2.1 135) 0 1358 := by rw [et_4]; exact hxb135
    have bt_4_153 : bI (t_4.2.2.1 153) 0 1358 := by rw [et_4]; exact hxb153
    have bt_4_154 : bI (t_4.2.2.1 154) 0 1358 := by rw [et_4]; exact hxb154
    have bt_4_155 : bI (t_4.2.2.1 155) 0 1358 := by rw [et_4]; exact hxb155
    have hP : va_P D vwCl (xwd y ad iv pv tv kt t_4) H := hP
    have hD : va_D A (xwd y ad iv pv tv kt t_4) := hD
    have hgb := hw
    refine lv_iconst (v := 0) hx hb dX11_groups_27 (by decide) ?_
    refine lv_istore_n (lv' := [(1, .int 0), (0, .ref (ad 0))]) hx hb dX11_groups_28 rfl hl (by decide) rfl (fun ls hl => ?_)
    have l00 : (0 : Int32).toInt = 0 := rfl
    have loop : ∀ (fu : Nat) (i : Int32) (s9 : OS) (H : Heap) (locs : List Loc) (ls : Array Slot), (0 ≤ i.toInt) → (i.toInt ≤ 12) → (XI s9) → ((s9.1 22).toInt = (σ.1 22).toInt) → (12 - i.toInt < (fu : Int)) → va_P D vwCl (xwd y ad iv pv tv kt s9) H → va_D A (xwd y ad iv pv tv kt s9) → va_S A s.heap H locs → lv_has ls 2 [(1, .int i), (0, .ref (ad 0))] → W p l e ({ frames := 10, cells := 0, slots := 0, locals := 237 } : Room) s m ([.ref (ad 0)] : List Value).toArray below meth c H locs 0 0 Q (F0 m 29 ls []) := by
      intro fu
      induction fu with
      | zero =>
        intro i s9 H locs ls hi0 hi1 hxs h22 hm
        exact absurd hm (by omega)
      | succ fu ih_loop =>
        intro i s9 H locs ls hi0 hi1 hxs h22 hm hP hD hS hl
        refine lv_iload_n hx hb dX11_groups_29 rfl (lv_at hl 0 rfl) ?_
        obtain ⟨hsi0, hsi1, hsi2, hsi3, hsi4, hsi5, hsi6, hsi7, hsi8, hsi9, hsi10, hsi11, hsi12, hsi13, hsi14, hsi15, hsi16, hsi17, hsi18, hsi19, hsi20, hsi21, hsi22, hsi23, hsb102, hsb133, hsb134, hsb135, hsb153, hsb154, hsb155⟩ := hxs
        refine lv_aload_n hx hb dX11_groups_30 rfl (lv_at hl 1 rfl) ?_
        refine va_get (D := D) (ci := 10) (v := .ref (ad 130)) (C := RX11) (T := TX11) (N := 11) hx hb hts inX11 hown hK hP 0 xwd_o0 rfl 7 (by decide) fl61 (fun _ h9 => h9) rfl dX11_groups_31 ?_
        refine va_get (D := D) (ci := 7) (v := .int (s9.1 141)) (C := RX8) (T := TX8) (N := 13) hx hb hts inX8 hown hK hP 8 xwd_o8 rfl 10 (by decide) fl176 (fun _ h9 => h9) rfl dX11_groups_34 ?_
        refine lv_icmp_ge (tgt := 65) hx hb dX11_groups_37 (by decide) (fun c_5 => ?_) (fun c_5 => ?_)
        · have kc_5 : i.toInt ≥ (s9.1 141).toInt := by have h9 := c_5; simp only [ge_iff_le, gt_iff_lt, x_lt, x_le, x_eq, ne_eq, Int32.not_lt, Int32.not_le] at h9; omega
          refine lv_aload_n hx hb dX11_groups_65 rfl (lv_at hl 1 rfl) ?_
          refine va_get (D := D) (ci := 10) (v := .ref (ad 180)) (C := RX11) (T := TX11) (N := 11) hx hb hts inX11 hown hK hP 0 xwd_o0 rfl 5 (by decide) fl47 (fun _ h9 => h9) rfl dX11_groups_66 ?_
          have hPs : va_P D vwCl (grw y ad s9) H := x_suP hP [11, 50, 51] rfl
          have hDs : va_D A (grw y ad s9) := x_suD hD [11, 50, 51] rfl (by decide)
          refine x_calliT (b1 := fun (u : (Nat → Int32)) => (xwd y ad iv pv tv kt (tI s9 181 u))) [11, 50, 51] [none, none, none, none, none, none, none, none, none, none, none, some 0, none, none, none, none, none, none, none, none, none, none, none, none, none, none, none, none, none, none, none, none, none, none, none, none, none, none, none, none, none, none, none, none, none, none, none, none, none, none, some 1, some 2] 3 (va_runV (As := []) (rest := []) ⟨hx, hb, hml, hown, hts⟩ (g_settle l D y H.size ad s9 (show 0 ≤ ((s9.1 183)).toInt from by first | omega | decide) (show ((s9.1 183)).toInt ≤ 8 from by first | omega | decide)) (cwV 0 hts g_x_m_groups_1 rfl rfl rfl (by decide +kernel) ⟨Nat.le_of_ble_eq_true rfl, Nat.le_of_ble_eq_true rfl⟩) (x_preV (q := (RX1, TX1, 3)) hK hPs hDs (ci := 0) (q0 := 0) rfl grw_o0) rfl rfl hl.1 rfl (lv_room (Nat.le_of_ble_eq_true rfl)) dX11_groups_69 ⟨Nat.le_of_ble_eq_true rfl, Nat.le_of_ble_eq_true rfl⟩) hP hD hS hA rfl (fun _ => xwd_in_grw (agr_tI (agr_refl _ _) rfl)) (fun _ => rfl) (fun _ => rfl) rfl (fun r_6 u H locs hw hP hD hS => ?_)
          obtain ⟨f_7, rfl⟩ : ∃ z9, z9 = u := ⟨_, rfl⟩
          try dsimp only at hw
          have hP : va_P D vwCl (xwd y ad iv pv tv kt (tI s9 181 f_7)) H := hP
          have hD : va_D A (xwd y ad iv pv tv kt (tI s9 181 f_7)) := hD
          obtain ⟨t_8, et_8⟩ : ∃ z9 : OS, z9 = (tI s9 181 f_7) := ⟨_, rfl⟩
          rw [← et_8] at hP hD
          have qt_8_22 : (t_8.1 22).toInt = (s9.1 22).toInt := by rw [et_8]; rfl
          have qt_8_81 : (t_8.1 81).toInt = (s9.1 81).toInt := by rw [et_8]; rfl
          have qt_8_82 : (t_8.1 82).toInt = (s9.1 82).toInt := by rw [et_8]; rfl
          have qt_8_85 : (t_8.1 85).toInt = (s9.1 85).toInt := by rw [et_8]; rfl
          have qt_8_86 : (t_8.1 86).toInt = (s9.1 86).toInt := by rw [et_8]; rfl
          have qt_8_105 : (t_8.1 105).toInt = (s9.1 105).toInt := by rw [et_8]; rfl
          have qt_8_137 : (t_8.1 137).toInt = (s9.1 137).toInt := by rw [et_8]; rfl
          have qt_8_139 : (t_8.1 139).toInt = (s9.1 139).toInt := by rw [et_8]; rfl
          have qt_8_141 : (t_8.1 141).toInt = (s9.1 141).toInt := by rw [et_8]; rfl
          have qt_8_183 : (t_8.1 183).toInt = (s9.1 183).toInt := by rw [et_8]; rfl
          have qt_8_138 : (t_8.1 138).toInt = (s9.1 138).toInt := by rw [et_8]; rfl
          have qt_8_106 : (t_8.1 106).toInt = (s9.1 106).toInt := by rw [et_8]; rfl
          have qt_8_107 : (t_8.1 107).toInt = (s9.1 107).toInt := by rw [et_8]; rfl
          have bt_8_102 : bI (t_8.2.2.1 102) 0 7 := by rw [et_8]; exact hsb102
          have bt_8_133 : bI (t_8.2.2.1 133) 0 1358 := by rw [et_8]; exact hsb133
          have bt_8_134 : bI (t_8.2.2.1 134) 0 1358 := by rw [et_8]; exact hsb134
          have bt_8_135 : bI (t_8.2.2.1 135) 0 1358 := by rw [et_8]; exact hsb135
          have bt_8_153 : bI (t_8.2.2.1 153) 0 1358 := by rw [et_8]; exact hsb153
          have bt_8_154 : bI (t_8.2.2.1 154) 0 1358 := by rw [et_8]; exact hsb154
          have bt_8_155 : bI (t_8.2.2.1 155) 0 1358 := by rw [et_8]; exact hsb155
          have hP : va_P D vwCl (xwd y ad iv pv tv kt t_8) H := hP
          have hD : va_D A (xwd y ad iv pv tv kt t_8) := hD
          exact x_iretW (v := r_6) (u := t_8) hx hb hr hQ ⟨(show 0 ≤ ((t_8.1 22)).toInt ∧ ((t_8.1 22)).toInt ≤ 700 ∧ 0 ≤ ((t_8.1 81)).toInt ∧ ((t_8.1 81)).toInt ≤ 8 ∧ 0 ≤ ((t_8.1 82)).toInt ∧ ((t_8.1 82)).toInt ≤ 4 ∧ 0 ≤ ((t_8.1 85)).toInt ∧ ((t_8.1 85)).toInt ≤ 350 ∧ 0 ≤ ((t_8.1 86)).toInt ∧ ((t_8.1 86)).toInt ≤ 700 ∧ 0 ≤ ((t_8.1 105)).toInt ∧ ((t_8.1 105)).toInt ≤ 8 ∧ 0 ≤ ((t_8.1 137)).toInt ∧ ((t_8.1 137)).toInt ≤ 8 ∧ 0 ≤ ((t_8.1 139)).toInt ∧ ((t_8.1 139)).toInt ≤ 1359 ∧ 0 ≤ ((t_8.1 141)).toInt ∧ ((t_8.1 141)).toInt ≤ 12 ∧ 0 ≤ ((t_8.1 183)).toInt ∧ ((t_8.1 183)).toInt ≤ 8 ∧ 0 ≤ ((t_8.1 138)).toInt ∧ 0 ≤ ((t_8.1 106)).toInt ∧ ((t_8.1 106)).toInt ≤ ((t_8.1 107)).toInt ∧ ((t_8.1 107)).toInt ≤ 40 ∧ bI ((t_8.2.2.1 102)) 0 7 ∧ bI ((t_8.2.2.1 133)) 0 1358 ∧ bI ((t_8.2.2.1 134)) 0 1358 ∧ bI ((t_8.2.2.1 135)) 0 1358 ∧ bI ((t_8.2.2.1 153)) 0 1358 ∧ bI ((t_8.2.2.1 154)) 0 1358 ∧ bI ((t_8.2.2.1 155)) 0 1358 from ⟨by omega, by omega, by omega, by omega, by omega, by omega, by omega, by omega, by omega, by omega, by omega, by omega, by omega, by omega, by omega, by omega, by omega, by omega, by omega, by omega, by omega, by omega, by omega, by omega, bt_8_102, bt_8_133, bt_8_134, bt_8_135, bt_8_153, bt_8_154, bt_8_155⟩), (Int32.toInt_inj.mp (by omega))⟩ hP hD hK hS dX11_groups_72 hlocks
        · have kc_5 : i.toInt < (s9.1 141).toInt := by have h9 := c_5; simp only [ge_iff_le, gt_iff_lt, x_lt, x_le, x_eq, ne_eq, Int32.not_lt, Int32.not_le] at h9; omega
          refine lv_aload_n hx hb dX11_groups_40 rfl (lv_at hl 1 rfl) ?_
          refine va_get (D := D) (ci := 10) (v := .ref (ad 180)) (C := RX11) (T := TX11) (N := 11) hx hb hts inX11 hown hK hP 0 xwd_o0 rfl 5 (by decide) fl47 (fun _ h9 => h9) rfl dX11_groups_41 ?_
          refine lv_aload_n hx hb dX11_groups_44 rfl (lv_at hl 1 rfl) ?_
          refine va_get (D := D) (ci := 10) (v := .ref (ad 170)) (C := RX11) (T := TX11) (N := 11) hx hb hts inX11 hown hK hP 0 xwd_o0 rfl 4 (by decide) fl40 (fun _ h9 => h9) rfl dX11_groups_45 ?_
          refine lv_aload_n hx hb dX11_groups_48 rfl (lv_at hl 1 rfl) ?_
          refine va_get (D := D) (ci := 10) (v := .ref (ad 130)) (C := RX11) (T := TX11) (N := 11) hx hb hts inX11 hown hK hP 0 xwd_o0 rfl 7 (by decide) fl61 (fun _ h9 => h9) rfl dX11_groups_49 ?_
          refine lv_iload_n hx hb dX11_groups_52 rfl (lv_at hl 0 rfl) ?_
          have hPs : va_P D vwCl (slw y ad s9) H := x_suP hP [10, 8, 45, 46, 47, 48, 49, 35, 36, 37, 38, 39] rfl
          have hDs : va_D A (slw y ad s9) := x_suD hD [10, 8, 45, 46, 47, 48, 49, 35, 36, 37, 38, 39] rfl (by decide)
          refine x_calliT (b1 := fun (u : (Nat → Int32)) => (xwd y ad iv pv tv kt (tI s9 174 u))) [10, 8, 45, 46, 47, 48, 49, 35, 36, 37, 38, 39] [none, none, none, none, none, none, none, none, some 1, none, some 0, none, none, none, none, none, none, none, none, none, none, none, none, none, none, none, none, none, none, none, none, none, none, none, none, some 7, some 8, some 9, some 10, some 11, none, none, none, none, none, some 2, some 3, some 4, some 5, some 6, none, none] 12 (va_runV (As := [.ref (ad 130), .int i]) (rest := [.ref (ad 180)]) ⟨hx, hb, hml, hown, hts⟩ (s_moverBits l D y H.size ad s9 i (show 0 ≤ ((s9.1 137)).toInt from by first | omega | decide) (show ((s9.1 137)).toInt ≤ 8 from by first | omega | decide) (show 0 ≤ ((s9.1 141)).toInt from by first | omega | decide) (show ((s9.1 141)).toInt ≤ 12 from by first | omega | decide) (show 0 ≤ ((s9.1 138)).toInt from by first | omega | decide) hsb133 hsb134 hsb135) (cwV 2 hts g_x_m_groups_2 rfl rfl rfl (by decide +kernel) ⟨Nat.le_of_ble_eq_true rfl, Nat.le_of_ble_eq_true rfl⟩) (x_preV (q := (RX7, TX7, 5)) hK hPs hDs (ci := 6) (q0 := 0) rfl slw_o0) rfl rfl hl.1 rfl (lv_room (Nat.le_of_ble_eq_true rfl)) dX11_groups_53 ⟨Nat.le_of_ble_eq_true rfl, Nat.le_of_ble_eq_true rfl⟩) hP hD hS hA rfl (fun _ => xwd_in_slw (agr_tI (agr_refl _ _) rfl)) (fun _ => rfl) (fun _ => rfl) rfl (fun r_9 u H locs hw hP hD hS => ?_)
          obtain ⟨f_10, rfl⟩ : ∃ z9, z9 = u := ⟨_, rfl⟩
          try dsimp only at hw
          have hP : va_P D vwCl (xwd y ad iv pv tv kt (tI s9 174 f_10)) H := hP
          have hD : va_D A (xwd y ad iv pv tv kt (tI s9 174 f_10)) := hD
          obtain ⟨t_11, et_11⟩ : ∃ z9 : OS, z9 = (tI s9 174 f_10) := ⟨_, rfl⟩
          rw [← et_11] at hP hD
          have qt_11_22 : (t_11.1 22).toInt = (s9.1 22).toInt := by rw [et_11]; rfl
          have qt_11_81 : (t_11.1 81).toInt = (s9.1 81).toInt := by rw [et_11]; rfl
          have qt_11_82 : (t_11.1 82).toInt = (s9.1 82).toInt := by rw [et_11]; rfl
          have qt_11_85 : (t_11.1 85).toInt = (s9.1 85).toInt := by rw [et_11]; rfl
          have qt_11_86 : (t_11.1 86).toInt = (s9.1 86).toInt := by rw [et_11]; rfl
          have qt_11_105 : (t_11.1 105).toInt = (s9.1 105).toInt := by rw [et_11]; rfl
          have qt_11_137 : (t_11.1 137).toInt = (s9.1 137).toInt := by rw [et_11]; rfl
          have qt_11_139 : (t_11.1 139).toInt = (s9.1 139).toInt := by rw [et_11]; rfl
          have qt_11_141 : (t_11.1 141).toInt = (s9.1 141).toInt := by rw [et_11]; rfl
          have qt_11_183 : (t_11.1 183).toInt = (s9.1 183).toInt := by rw [et_11]; rfl
          have qt_11_138 : (t_11.1 138).toInt = (s9.1 138).toInt := by rw [et_11]; rfl
          have qt_11_106 : (t_11.1 106).toInt = (s9.1 106).toInt := by rw [et_11]; rfl
          have qt_11_107 : (t_11.1 107).toInt = (s9.1 107).toInt := by rw [et_11]; rfl
          have bt_11_102 : bI (t_11.2.2.1 102) 0 7 := by rw [et_11]; exact hsb102
          have bt_11_133 : bI (t_11.2.2.1 133) 0 1358 := by rw [et_11]; exact hsb133
          have bt_11_134 : bI (t_11.2.2.1 134) 0 1358 := by rw [et_11]; exact hsb134
          have bt_11_135 : bI (t_11.2.2.1 135) 0 1358 := by rw [et_11]; exact hsb135
          have bt_11_153 : bI (t_11.2.2.1 153) 0 1358 := by rw [et_11]; exact hsb153
          have bt_11_154 : bI (t_11.2.2.1 154) 0 1358 := by rw [et_11]; exact hsb154
          have bt_11_155 : bI (t_11.2.2.1 155) 0 1358 := by rw [et_11]; exact hsb155
          have hP : va_P D vwCl (xwd y ad iv pv tv kt t_11) H := hP
          have hD : va_D A (xwd y ad iv pv tv kt t_11) := hD
          have hPs : va_P D vwCl (grw y ad t_11) H := x_suP hP [11, 50, 51] rfl
          have hDs : va_D A (grw y ad t_11) := x_suD hD [11, 50, 51] rfl (by decide)
          refine x_callvT (b1 := fun (u : (Nat → Int32)) => (xwd y ad iv pv tv kt (tI t_11 182 u))) [11, 50, 51] [none, none, none, none, none, none, none, none, none, none, none, some 0, none, none, none, none, none, none, none, none, none, none, none, none, none, none, none, none, none, none, none, none, none, none, none, none, none, none, none, none, none, none, none, none, none, none, none, none, none, none, some 1, some 2] 3 (va_runV (As := [.int r_9]) (rest := []) ⟨hx, hb, hml, hown, hts⟩ (g_keepApart l D y H.size ad t_11 r_9 (show 0 ≤ ((t_11.1 183)).toInt from by first | omega | decide) (show ((t_11.1 183)).toInt ≤ 8 from by first | omega | decide)) (cwV 1 hts g_x_m_groups_3 rfl rfl rfl (by decide +kernel) ⟨Nat.le_of_ble_eq_true rfl, Nat.le_of_ble_eq_true rfl⟩) (x_preV (q := (RX1, TX1, 3)) hK hPs hDs (ci := 0) (q0 := 0) rfl grw_o0) rfl rfl hl.1 rfl (lv_room (Nat.le_of_ble_eq_true rfl)) dX11_groups_56 ⟨Nat.le_of_ble_eq_true rfl, Nat.le_of_ble_eq_true rfl⟩) hP hD hS hA rfl (fun _ => xwd_in_grw (agr_tI (agr_refl _ _) rfl)) (fun _ => rfl) (fun _ => rfl) rfl (fun u H locs hw hP hD hS => ?_)
          obtain ⟨f_12, rfl⟩ : ∃ z9, z9 = u := ⟨_, rfl⟩
          try dsimp only at hw
          have hP : va_P D vwCl (xwd y ad iv pv tv kt (tI t_11 182 f_12)) H := hP
          have hD : va_D A (xwd y ad iv pv tv kt (tI t_11 182 f_12)) := hD
          obtain ⟨t_13, et_13⟩ : ∃ z9 : OS, z9 = (tI t_11 182 f_12) := ⟨_, rfl⟩
          rw [← et_13] at hP hD
          have qt_13_22 : (t_13.1 22).toInt = (t_11.1 22).toInt := by rw [et_13]; rfl
          have qt_13_81 : (t_13.1 81).toInt = (t_11.1 81).toInt := by rw [et_13]; rfl
          have qt_13_82 : (t_13.1 82).toInt = (t_11.1 82).toInt := by rw [et_13]; rfl
          have qt_13_85 : (t_13.1 85).toInt = (t_11.1 85).toInt := by rw [et_13]; rfl
          have qt_13_86 : (t_13.1 86).toInt = (t_11.1 86).toInt := by rw [et_13]; rfl
          have qt_13_105 : (t_13.1 105).toInt = (t_11.1 105).toInt := by rw [et_13]; rfl
          have qt_13_137 : (t_13.1 137).toInt = (t_11.1 137).toInt := by rw [et_13]; rfl
          have qt_13_139 : (t_13.1 139).toInt = (t_11.1 139).toInt := by rw [et_13]; rfl
          have qt_13_141 : (t_13.1 141).toInt = (t_11.1 141).toInt := by rw [et_13]; rfl
          have qt_13_183 : (t_13.1 183).toInt = (t_11.1 183).toInt := by rw [et_13]; rfl
          have qt_13_138 : (t_13.1 138).toInt = (t_11.1 138).toInt := by rw [et_13]; rfl
          have qt_13_106 : (t_13.1 106).toInt = (t_11.1 106).toInt := by rw [et_13]; rfl
          have qt_13_107 : (t_13.1 107).toInt = (t_11.1 107).toInt := by rw [et_13]; rfl
          have bt_13_102 : bI (t_13.2.2.1 102) 0 7 := by rw [et_13]; exact bt_11_102
          have bt_13_133 : bI (t_13.2.2.1 133) 0 1358 := by rw [et_13]; exact bt_11_133
          have bt_13_134 : bI (t_13.2.2.1 134) 0 1358 := by rw [et_13]; exact bt_11_134
          have bt_13_135 : bI (t_13.2.2.1 135) 0 1358 := by rw [et_13]; exact bt_11_135
          have bt_13_153 : bI (t_13.2.2.1 153) 0 1358 := by rw [et_13]; exact bt_11_153
          have bt_13_154 : bI (t_13.2.2.1 154) 0 1358 := by rw [et_13]; exact bt_11_154
          have bt_13_155 : bI (t_13.2.2.1 155) 0 1358 := by rw [et_13]; exact bt_11_155
          have hP : va_P D vwCl (xwd y ad iv pv tv kt t_13) H := hP
          have hD : va_D A (xwd y ad iv pv tv kt t_13) := hD
          obtain ⟨i_14, ei_14⟩ : ∃ z9 : Int32, z9 = i + 1 := ⟨_, rfl⟩
          have vi_14 : i_14.toInt = i.toInt + 1 := by have h9 := x_add ei_14 (by omega) (by omega); omega
          refine lv_iinc (v := i_14) (lv' := [(1, .int i_14), (0, .ref (ad 0))]) hx hb dX11_groups_59 hl (k := 0) rfl (by rw [ei_14]; rfl) (by decide) rfl (fun ls hl => ?_)
          refine lv_goto (tgt := 29) hx hb dX11_groups_62 (by decide) ?_
          exact ih_loop i_14 t_13 H locs ls (by omega) (by omega) (show 0 ≤ ((t_13.1 22)).toInt ∧ ((t_13.1 22)).toInt ≤ 700 ∧ 0 ≤ ((t_13.1 81)).toInt ∧ ((t_13.1 81)).toInt ≤ 8 ∧ 0 ≤ ((t_13.1 82)).toInt ∧ ((t_13.1 82)).toInt ≤ 4 ∧ 0 ≤ ((t_13.1 85)).toInt ∧ ((t_13.1 85)).toInt ≤ 350 ∧ 0 ≤ ((t_13.1 86)).toInt ∧ ((t_13.1 86)).toInt ≤ 700 ∧ 0 ≤ ((t_13.1 105)).toInt ∧ ((t_13.1 105)).toInt ≤ 8 ∧ 0 ≤ ((t_13.1 137)).toInt ∧ ((t_13.1 137)).toInt ≤ 8 ∧ 0 ≤ ((t_13.1 139)).toInt ∧ ((t_13.1 139)).toInt ≤ 1359 ∧ 0 ≤ ((t_13.1 141)).toInt ∧ ((t_13.1 141)).toInt ≤ 12 ∧ 0 ≤ ((t_13.1 183)).toInt ∧ ((t_13.1 183)).toInt ≤ 8 ∧ 0 ≤ ((t_13.1 138)).toInt ∧ 0 ≤ ((t_13.1 106)).toInt ∧ ((t_13.1 106)).toInt ≤ ((t_13.1 107)).toInt ∧ ((t_13.1 107)).toInt ≤ 40 ∧ bI ((t_13.2.2.1 102)) 0 7 ∧ bI ((t_13.2.2.1 133)) 0 1358 ∧ bI ((t_13.2.2.1 134)) 0 1358 ∧ bI ((t_13.2.2.1 135)) 0 1358 ∧ bI ((t_13.2.2.1 153)) 0 1358 ∧ bI ((t_13.2.2.1 154)) 0 1358 ∧ bI ((t_13.2.2.1 155)) 0 1358 from ⟨by omega, by omega, by omega, by omega, by omega, by omega, by omega, by omega, by omega, by omega, by omega, by omega, by omega, by omega, by omega, by omega, by omega, by omega, by omega, by omega, by omega, by omega, by omega, by omega, bt_13_102, bt_13_133, bt_13_134, bt_13_135, bt_13_153, bt_13_154, bt_13_155⟩) (by omega) (by omega) hP hD hS (lv_sub hl [0, 1] rfl)
    exact loop 13 0 t_4 H locs ls (by decide) (by decide) (show 0 ≤ ((t_4.1 22)).toInt ∧ ((t_4.1 22)).toInt ≤ 700 ∧ 0 ≤ ((t_4.1 81)).toInt ∧ ((t_4.1 81)).toInt ≤ 8 ∧ 0 ≤ ((t_4.1 82)).toInt ∧ ((t_4.1 82)).toInt ≤ 4 ∧ 0 ≤ ((t_4.1 85)).toInt ∧ ((t_4.1 85)).toInt ≤ 350 ∧ 0 ≤ ((t_4.1 86)).toInt ∧ ((t_4.1 86)).toInt ≤ 700 ∧ 0 ≤ ((t_4.1 105)).toInt ∧ ((t_4.1 105)).toInt ≤ 8 ∧ 0 ≤ ((t_4.1 137)).toInt ∧ ((t_4.1 137)).toInt ≤ 8 ∧ 0 ≤ ((t_4.1 139)).toInt ∧ ((t_4.1 139)).toInt ≤ 1359 ∧ 0 ≤ ((t_4.1 141)).toInt ∧ ((t_4.1 141)).toInt ≤ 12 ∧ 0 ≤ ((t_4.1 183)).toInt ∧ ((t_4.1 183)).toInt ≤ 8 ∧ 0 ≤ ((t_4.1 138)).toInt ∧ 0 ≤ ((t_4.1 106)).toInt ∧ ((t_4.1 106)).toInt ≤ ((t_4.1 107)).toInt ∧ ((t_4.1 107)).toInt ≤ 40 ∧ bI ((t_4.2.2.1 102)) 0 7 ∧ bI ((t_4.2.2.1 133)) 0 1358 ∧ bI ((t_4.2.2.1 134)) 0 1358 ∧ bI ((t_4.2.2.1 135)) 0 1358 ∧ bI ((t_4.2.2.1 153)) 0 1358 ∧ bI ((t_4.2.2.1 154)) 0 1358 ∧ bI ((t_4.2.2.1 155)) 0 1358 from ⟨by omega, by omega, by omega, by omega, by omega, by omega, by omega, by omega, by omega, by omega, by omega, by omega, by omega, by omega, by omega, by omega, by omega, by omega, by omega, by omega, by omega, by omega, by omega, by omega, bt_4_102, bt_4_133, bt_4_134, bt_4_135, bt_4_153, bt_4_154, bt_4_155⟩) (by omega) (by omega) hP hD hS (lv_sub hl [0, 1] rfl)
  · have kc_1 : (σ.1 136).toInt = (-1) := by have h9 := c_1; simp only [ge_iff_le, gt_iff_lt, x_lt, x_le, x_eq, ne_eq, Int32.not_lt, Int32.not_le] at h9; simp only [Int32.reduceToInt] at h9; omega
    refine lv_iconst (v := (-1)) hx hb dX11_groups_11 (by decide) ?_
    exact x_iretW (v := (-1)) (u := σ) hx hb hr hQ ⟨(show 0 ≤ ((σ.1 22)).toInt ∧ ((σ.1 22)).toInt ≤ 700 ∧ 0 ≤ ((σ.1 81)).toInt ∧ ((σ.1 81)).toInt ≤ 8 ∧ 0 ≤ ((σ.1 82)).toInt ∧ ((σ.1 82)).toInt ≤ 4 ∧ 0 ≤ ((σ.1 85)).toInt ∧ ((σ.1 85)).toInt ≤ 350 ∧ 0 ≤ ((σ.1 86)).toInt ∧ ((σ.1 86)).toInt ≤ 700 ∧ 0 ≤ ((σ.1 105)).toInt ∧ ((σ.1 105)).toInt ≤ 8 ∧ 0 ≤ ((σ.1 137)).toInt ∧ ((σ.1 137)).toInt ≤ 8 ∧ 0 ≤ ((σ.1 139)).toInt ∧ ((σ.1 139)).toInt ≤ 1359 ∧ 0 ≤ ((σ.1 141)).toInt ∧ ((σ.1 141)).toInt ≤ 12 ∧ 0 ≤ ((σ.1 183)).toInt ∧ ((σ.1 183)).toInt ≤ 8 ∧ 0 ≤ ((σ.1 138)).toInt ∧ 0 ≤ ((σ.1 106)).toInt ∧ ((σ.1 106)).toInt ≤ ((σ.1 107)).toInt ∧ ((σ.1 107)).toInt ≤ 40 ∧ bI ((σ.2.2.1 102)) 0 7 ∧ bI ((σ.2.2.1 133)) 0 1358 ∧ bI ((σ.2.2.1 134)) 0 1358 ∧ bI ((σ.2.2.1 135)) 0 1358 ∧ bI ((σ.2.2.1 153)) 0 1358 ∧ bI ((σ.2.2.1 154)) 0 1358 ∧ bI ((σ.2.2.1 155)) 0 1358 from ⟨by omega, by omega, by omega, by omega, by omega, by omega, by omega, by omega, by omega, by omega, by omega, by omega, by omega, by omega, by omega, by omega, by omega, by omega, by omega, by omega, by omega, by omega, by omega, by omega, hxb102, hxb133, hxb134, hxb135, hxb153, hxb154, hxb155⟩), rfl⟩ hP hD hK hS dX11_groups_12 hlocks

def v_x_m_difference : List Cond := .code yX11_difference cX11_difference 12 (some .long) :: ([.fieldLink RX11 61 "SlopeRunner" "latest" "LSlopeRunner$Tape;", .fieldLink RX11 65 "SlopeRunner" "trial" "LSlopeRunner$Tape;", .fieldLink RX11 71 "SlopeRunner" "current" "LSlopeRunner$Program;", .fieldLink RX11 211 "SlopeRunner$Tape" "value" "[J", .fieldLink RX11 33 "SlopeRunner" "machine" "LSlopeRunner$Machine;", .fieldLink RX11 168 "SlopeRunner$Tape" "state" "I", .constantLong RX11 192 (-2000000000)] ++ ((wsV RX11 189 RX8 yX8_hasBoth v_ka_hasBoth) ++ ((va_wsS RX11 128 yX0_canBe v_k_canBe) ++ ((va_wsS RX11 134 yX0_of v_k_of) ++ ((wsV RX11 205 RX8 yX8_valueAt v_ka_valueAt) ++ ((va_wsS RX11 208 yX0_plus v_k_plus) ++ ((wsV RX11 161 RX8 yX8_begin v_kb_begin) ++ ((wsV RX11 212 RX8 yX8_putInput v_kb_putInput) ++ ((wsV RX11 164 RX4 yX4_play v_md_play) ++ ((wsV RX11 182 RX8 yX8_resultValue v_kb_resultValue) ++ ((wsV RX11 182 RX8 yX8_resultValue v_ka_resultValue) ++ ((va_wsS RX11 215 yX0_minus v_k_minus) ++ ((va_wsS RX11 218 yX0_over v_k_over) ++ ((wsS RX11 153 yX11_answer v_x_answer) ++ (wsX110 ++ wsX80)))))))))))))))
theorem g_x_m_difference_0 : GoodIn v_x_m_difference (wsV RX11 189 RX8 yX8_hasBoth v_ka_hasBoth) := goodIn_sub (fun w h => List.mem_cons_of_mem _ (List.mem_append_right _ (List.mem_append_left _ h))) (by decide +kernel)
theorem g_x_m_difference_1 : GoodIn v_x_m_difference (va_wsS RX11 128 yX0_canBe v_k_canBe) := goodIn_sub (fun w h => List.mem_cons_of_mem _ (List.mem_append_right _ (List.mem_append_right _ (List.mem_append_left _ h)))) (by decide +kernel)
theorem g_x_m_difference_2 : GoodIn v_x_m_difference (va_wsS RX11 134 yX0_of v_k_of) := goodIn_sub (fun w h => List.mem_cons_of_mem _ (List.mem_append_right _ (List.mem_append_right _ (List.mem_append_right _ (List.mem_append_left _ h))))) (by decide +kernel)
theorem g_x_m_difference_3 : GoodIn v_x_m_difference (wsV RX11 205 RX8 yX8_valueAt v_ka_valueAt) := goodIn_sub (fun w h => List.mem_cons_of_mem _ (List.mem_append_right _ (List.mem_append_right _ (List.mem_append_right _ (List.mem_append_right _ (List.mem_append_left _ h)))))) (by decide +kernel)
theorem g_x_m_difference_4 : GoodIn v_x_m_difference (va_wsS RX11 208 yX0_plus v_k_plus) := goodIn_sub (fun w h => List.mem_cons_of_mem _ (List.mem_append_right _ (List.mem_append_right _ (List.mem_append_right _ (List.mem_append_right _ (List.mem_append_right _ (List.mem_append_left _ h))))))) (by decide +kernel)
theorem g_x_m_difference_5 : GoodIn v_x_m_difference (wsV RX11 161 RX8 yX8_begin v_kb_begin) := goodIn_sub (fun w h => List.mem_cons_of_mem _ (List.mem_append_right _ (List.mem_append_right _ (List.mem_append_right _ (List.mem_append_right _ (List.mem_append_right _ (List.mem_append_right _ (List.mem_append_left _ h)))))))) (by decide +kernel)
theorem g_x_m_difference_6 : GoodIn v_x_m_difference (wsV RX11 212 RX8 yX8_putInput v_kb_putInput) := goodIn_sub (fun w h => List.mem_cons_of_mem _ (List.mem_append_right _ (List.mem_append_right _ (List.mem_append_right _ (List.mem_append_right _ (List.mem_append_right _ (List.mem_append_right _ (List.mem_append_right _ (List.mem_append_left _ h))))))))) (by decide +kernel)
theorem g_x_m_difference_7 : GoodIn v_x_m_difference (wsV RX11 164 RX4 yX4_play v_md_play) := goodIn_sub (fun w h => List.mem_cons_of_mem _ (List.mem_append_right _ (List.mem_append_right _ (List.mem_append_right _ (List.mem_append_right _ (List.mem_append_right _ (List.mem_append_right _ (List.mem_append_right _ (List.mem_append_right _ (List.mem_append_left _ h)))))))))) (by decide +kernel)
theorem g_x_m_difference_8 : GoodIn v_x_m_difference (wsV RX11 182 RX8 yX8_resultValue v_kb_resultValue) := goodIn_sub (fun w h => List.mem_cons_of_mem _ (List.mem_append_right _ (List.mem_append_right _ (List.mem_append_right _ (List.mem_append_right _ (List.mem_append_right _ (List.mem_append_right _ (List.mem_append_right _ (List.mem_append_right _ (List.mem_append_right _ (List.mem_append_left _ h))))))))))) (by decide +kernel)
theorem g_x_m_difference_9 : GoodIn v_x_m_difference (wsV RX11 182 RX8 yX8_resultValue v_ka_resultValue) := goodIn_sub (fun w h => List.mem_cons_of_mem _ (List.mem_append_right _ (List.mem_append_right _ (List.mem_append_right _ (List.mem_append_right _ (List.mem_append_right _ (List.mem_append_right _ (List.mem_append_right _ (List.mem_append_right _ (List.mem_append_right _ (List.mem_append_right _ (List.mem_append_left _ h)))))))))))) (by decide +kernel)
theorem g_x_m_difference_10 : GoodIn v_x_m_difference (va_wsS RX11 215 yX0_minus v_k_minus) := goodIn_sub (fun w h => List.mem_cons_of_mem _ (List.mem_append_right _ (List.mem_append_right _ (List.mem_append_right _ (List.mem_append_right _ (List.mem_append_right _ (List.mem_append_right _ (List.mem_append_right _ (List.mem_append_right _ (List.mem_append_right _ (List.mem_append_right _ (List.mem_append_right _ (List.mem_append_left _ h))))))))))))) (by decide +kernel)
theorem g_x_m_difference_11 : GoodIn v_x_m_difference (va_wsS RX11 218 yX0_over v_k_over) := goodIn_sub (fun w h => List.mem_cons_of_mem _ (List.mem_append_right _ (List.mem_append_right _ (List.mem_append_right _ (List.mem_append_right _ (List.mem_append_right _ (List.mem_append_right _ (List.mem_append_right _ (List.mem_append_right _ (List.mem_append_right _ (List.mem_append_right _ (List.mem_append_right _ (List.mem_append_right _ (List.mem_append_left _ h)))))))))))))) (by decide +kernel)
theorem g_x_m_difference_12 : GoodIn v_x_m_difference (wsS RX11 153 yX11_answer v_x_answer) := goodIn_sub (fun w h => List.mem_cons_of_mem _ (List.mem_append_right _ (List.mem_append_right _ (List.mem_append_right _ (List.mem_append_right _ (List.mem_append_right _ (List.mem_append_right _ (List.mem_append_right _ (List.mem_append_right _ (List.mem_append_right _ (List.mem_append_right _ (List.mem_append_right _ (List.mem_append_right _ (List.mem_append_right _ (List.mem_append_left _ h))))))))))))))) (by decide +kernel)
set_option maxHeartbeats 4000000 in
set_option maxRecDepth 100000 in
theorem x_m_difference (l : Launch) (D : va_G) (y : Nat → ClassId) (sz : Nat) (ad : Nat → Nat) (iv : Value) (pv : Value) (tv : Value) (kt : va_W) (σ : OS) (q i z b a : Int32) (hxi : XI σ) : Met l yX11_difference v_x_m_difference ({ frames := 7, cells := 0, slots := 0, locals := 194 } : Room) (va_Pc [.ref (ad 0), .int q, .int i, .int z, .int b, .int a] (xPre D (xT y) (xwd y ad iv pv tv kt σ) sz)) (va_Ql (fun (r : Int64) (u : OS × Value × Value) => XI u.1 ∧ ((u.1.1 22) = σ.1 22)) (fun (u : OS × Value × Value) => xB D (xT y) (va_A (xwd y ad iv pv tv kt σ) sz) (xwd y ad iv u.2.1 u.2.2 kt u.1)) (va_A (xwd y ad iv pv tv kt σ) sz)) 0 0 (va_A (xwd y ad iv pv tv kt σ) sz) := by
  refine x_metl (cc := cX11_difference) (maxL := 12) (by decide) rfl (Nat.le_of_ble_eq_true rfl) ?_
  intro p e s m below meth c A H locs Q hx hb hml hown hts hr hlocks hmn hA hP hK hD hS ls hl hQ
  have hl : lv_has ls 12 [(0, .ref (ad 0)), (1, .int q), (2, .int i), (3, .int z), (4, .int b), (5, .int a)] := hl
  have fl61 := hts (.fieldLink RX11 61 "SlopeRunner" "latest" "LSlopeRunner$Tape;") (List.mem_of_getElem? (i := 1) rfl)
  have inX11 : ∀ w ∈ wsX110, w ∈ v_x_m_difference := (fun w h => List.mem_cons_of_mem _ (List.mem_append_right _ (List.mem_append_right _ (List.mem_append_right _ (List.mem_append_right _ (List.mem_append_right _ (List.mem_append_right _ (List.mem_append_right _ (List.mem_append_right _ (List.mem_append_right _ (List.mem_append_right _ (List.mem_append_right _ (List.mem_append_right _ (List.mem_append_right _ (List.mem_append_right _ (List.mem_append_left _ h))))))))))))))))
  have kk_0 : (0 : Int32).toInt = 0 := rfl
  have fl65 := hts (.fieldLink RX11 65 "SlopeRunner" "trial" "LSlopeRunner$Tape;") (List.mem_of_getElem? (i := 2) rfl)
  have fl71 := hts (.fieldLink RX11 71 "SlopeRunner" "current" "LSlopeRunner$Program;") (List.mem_of_getElem? (i := 3) rfl)
  have fl211 := hts (.fieldLink RX11 211 "SlopeRunner$Tape" "value" "[J") (List.mem_of_getElem? (i := 4) rfl)
  have inX8 : ∀ w ∈ wsX80, w ∈ v_x_m_difference := (fun w h => List.mem_cons_of_mem _ (List.mem_append_right _ (List.mem_append_right _ (List.mem_append_right _ (List.mem_append_right _ (List.mem_append_right _ (List.mem_append_right _ (List.mem_append_right _ (List.mem_append_right _ (List.mem_append_right _ (List.mem_append_right _ (List.mem_append_right _ (List.mem_append_right _ (List.mem_append_right _ (List.mem_append_right _ (List.mem_append_right _ h))))))))))))))))
  have fl33 := hts (.fieldLink RX11 33 "SlopeRunner" "machine" "LSlopeRunner$Machine;") (List.mem_of_getElem? (i := 5) rfl)
  have fl168 := hts (.fieldLink RX11 168 "SlopeRunner$Tape" "state" "I") (List.mem_of_getElem? (i := 6) rfl)
  obtain ⟨hxi0, hxi1, hxi2, hxi3, hxi4, hxi5, hxi6, hxi7, hxi8, hxi9, hxi10, hxi11, hxi12, hxi13, hxi14, hxi15, hxi16, hxi17, hxi18, hxi19, hxi20, hxi21, hxi22, hxi23, hxb102, hxb133, hxb134, hxb135, hxb153, hxb154, hxb155⟩ := hxi
  refine lv_aload_n hx hb dX11_difference_0 rfl (lv_at hl 0 rfl) ?_
  refine va_get (D := D) (ci := 10) (v := .ref (ad 130)) (C := RX11) (T := TX11) (N := 11) hx hb hts inX11 hown hK hP 0 xwd_o0 rfl 7 (by decide) fl61 (fun _ h9 => h9) rfl dX11_difference_1 ?_
  refine lv_iload_n hx hb dX11_difference_4 rfl (lv_at hl 1 rfl) ?_
  refine lv_iload_n hx hb dX11_difference_5 rfl (lv_at hl 2 rfl) ?_
  have hPs : va_P D vwCl (tpw y ad σ) H := x_suP hP [8, 35, 36, 37, 38, 39] rfl
  have hDs : va_D A (tpw y ad σ) := x_suD hD [8, 35, 36, 37, 38, 39] rfl (by decide)
  refine x_calliT (b1 := fun (u : Unit) => (xwd y ad iv pv tv kt σ)) [8, 35, 36, 37, 38, 39] [none, none, none, none, none, none, none, none, some 0, none, none, none, none, none, none, none, none, none, none, none, none, none, none, none, none, none, none, none, none, none, none, none, none, none, none, some 1, some 2, some 3, some 4, some 5, none, none, none, none, none, none, none, none, none, none, none, none] 6 (va_runV (As := [.int q, .int i]) (rest := []) ⟨hx, hb, hml, hown, hts⟩ (ka_hasBoth l D y H.size ad σ q i) (cwV 2 hts g_x_m_difference_0 rfl rfl rfl (by decide +kernel) ⟨Nat.le_of_ble_eq_true rfl, Nat.le_of_ble_eq_true rfl⟩) (x_preV (q := (RX8, TX8, 13)) hK hPs hDs (ci := 7) (q0 := 0) rfl tpw_o0) rfl rfl hl.1 rfl (lv_room (Nat.le_of_ble_eq_true rfl)) dX11_difference_6 ⟨Nat.le_of_ble_eq_true rfl, Nat.le_of_ble_eq_true rfl⟩) hP hD hS hA rfl (fun _ => xwd_in_tpw (agr_refl _ _)) (fun _ => rfl) (fun _ => rfl) rfl (fun r_1 u H locs hw hP hD hS => ?_)
  try dsimp only at hw
  have hP : va_P D vwCl (xwd y ad iv pv tv kt σ) H := hP
  have hD : va_D A (xwd y ad iv pv tv kt σ) := hD
  replace hw : (r_1.toInt = 1 ∧ 0 ≤ q.toInt ∧ q.toInt < ((σ.1 141)).toInt ∧ 0 ≤ i.toInt ∧ i.toInt < ((σ.1 137)).toInt) ∨ r_1.toInt = 0 := hw
  have hhb9 := hw
  refine lv_if_eq (tgt := 25) hx hb dX11_difference_9 (by decide) (fun c_2 => ?_) (fun c_2 => ?_)
  · have kc_2 : r_1.toInt = 0 := by have h9 := c_2; simp only [ge_iff_le, gt_iff_lt, x_lt, x_le, x_eq, ne_eq, Int32.not_lt, Int32.not_le] at h9; simp only [Int32.reduceToInt] at h9; omega
    refine lv_ldc2 (v := (-2000000000)) hx hb hown (hts (.constantLong RX11 192 (-2000000000)) (List.mem_of_getElem? (i := 7) rfl)) dX11_difference_25 ?_
    exact x_lretW (v := (-2000000000)) (u := (σ, pv, tv)) hx hb hr hQ (by (try dsimp only); exact ⟨(show 0 ≤ ((σ.1 22)).toInt ∧ ((σ.1 22)).toInt ≤ 700 ∧ 0 ≤ ((σ.1 81)).toInt ∧ ((σ.1 81)).toInt ≤ 8 ∧ 0 ≤ ((σ.1 82)).toInt ∧ ((σ.1 82)).toInt ≤ 4 ∧ 0 ≤ ((σ.1 85)).toInt ∧ ((σ.1 85)).toInt ≤ 350 ∧ 0 ≤ ((σ.1 86)).toInt ∧ ((σ.1 86)).toInt ≤ 700 ∧ 0 ≤ ((σ.1 105)).toInt ∧ ((σ.1 105)).toInt ≤ 8 ∧ 0 ≤ ((σ.1 137)).toInt ∧ ((σ.1 137)).toInt ≤ 8 ∧ 0 ≤ ((σ.1 139)).toInt ∧ ((σ.1 139)).toInt ≤ 1359 ∧ 0 ≤ ((σ.1 141)).toInt ∧ ((σ.1 141)).toInt ≤ 12 ∧ 0 ≤ ((σ.1 183)).toInt ∧ ((σ.1 183)).toInt ≤ 8 ∧ 0 ≤ ((σ.1 138)).toInt ∧ 0 ≤ ((σ.1 106)).toInt ∧ ((σ.1 106)).toInt ≤ ((σ.1 107)).toInt ∧ ((σ.1 107)).toInt ≤ 40 ∧ bI ((σ.2.2.1 102)) 0 7 ∧ bI ((σ.2.2.1 133)) 0 1358 ∧ bI ((σ.2.2.1 134)) 0 1358 ∧ bI ((σ.2.2.1 135)) 0 1358 ∧ bI ((σ.2.2.1 153)) 0 1358 ∧ bI ((σ.2.2.1 154)) 0 1358 ∧ bI ((σ.2.2.1 155)) 0 1358 from ⟨by omega, by omega, by omega, by omega, by omega, by omega, by omega, by omega, by omega, by omega, by omega, by omega, by omega, by omega, by omega, by omega, by omega, by omega, by omega, by omega, by omega, by omega, by omega, by omega, hxb102, hxb133, hxb134, hxb135, hxb153, hxb154, hxb155⟩), rfl⟩) hP hD hK hS dX11_difference_28 hlocks
  · have kc_2 : r_1.toInt ≠ 0 := by have h9 := c_2; simp only [ge_iff_le, gt_iff_lt, x_lt, x_le, x_eq, ne_eq, Int32.not_lt, Int32.not_le] at h9; simp only [Int32.reduceToInt] at h9; omega
    refine lv_iload_n hx hb dX11_difference_12 rfl (lv_at hl 3 rfl) ?_
    refine lv_if_eq (tgt := 25) hx hb dX11_difference_13 (by decide) (fun c_3 => ?_) (fun c_3 => ?_)
    · have kc_3 : z.toInt = 0 := by have h9 := c_3; simp only [ge_iff_le, gt_iff_lt, x_lt, x_le, x_eq, ne_eq, Int32.not_lt, Int32.not_le] at h9; simp only [Int32.reduceToInt] at h9; omega
      refine lv_ldc2 (v := (-2000000000)) hx hb hown (hts (.constantLong RX11 192 (-2000000000)) (List.mem_of_getElem? (i := 7) rfl)) dX11_difference_25 ?_
      exact x_lretW (v := (-2000000000)) (u := (σ, pv, tv)) hx hb hr hQ (by (try dsimp only); exact ⟨(show 0 ≤ ((σ.1 22)).toInt ∧ ((σ.1 22)).toInt ≤ 700 ∧ 0 ≤ ((σ.1 81)).toInt ∧ ((σ.1 81)).toInt ≤ 8 ∧ 0 ≤ ((σ.1 82)).toInt ∧ ((σ.1 82)).toInt ≤ 4 ∧ 0 ≤ ((σ.1 85)).toInt ∧ ((σ.1 85)).toInt ≤ 350 ∧ 0 ≤ ((σ.1 86)).toInt ∧ ((σ.1 86)).toInt ≤ 700 ∧ 0 ≤ ((σ.1 105)).toInt ∧ ((σ.1 105)).toInt ≤ 8 ∧ 0 ≤ ((σ.1 137)).toInt ∧ ((σ.1 137)).toInt ≤ 8 ∧ 0 ≤ ((σ.1 139)).toInt ∧ ((σ.1 139)).toInt ≤ 1359 ∧ 0 ≤ ((σ.1 141)).toInt ∧ ((σ.1 141)).toInt ≤ 12 ∧ 0 ≤ ((σ.1 183)).toInt ∧ ((σ.1 183)).toInt ≤ 8 ∧ 0 ≤ ((σ.1 138)).toInt ∧ 0 ≤ ((σ.1 106)).toInt ∧ ((σ.1 106)).toInt ≤ ((σ.1 107)).toInt ∧ ((σ.1 107)).toInt ≤ 40 ∧ bI ((σ.2.2.1 102)) 0 7 ∧ bI ((σ.2.2.1 133)) 0 1358 ∧ bI ((σ.2.2.1 134)) 0 1358 ∧ bI ((σ.2.2.1 135)) 0 1358 ∧ bI ((σ.2.2.1 153)) 0 1358 ∧ bI ((σ.2.2.1 154)) 0 1358 ∧ bI ((σ.2.2.1 155)) 0 1358 from ⟨by omega, by omega, by omega, by omega, by omega, by omega, by omega, by omega, by omega, by omega, by omega, by omega, by omega, by omega, by omega, by omega, by omega, by omega, by omega, by omega, by omega, by omega, by omega, by omega, hxb102, hxb133, hxb134, hxb135, hxb153, hxb154, hxb155⟩), rfl⟩) hP hD hK hS dX11_difference_28 hlocks
    · have kc_3 : z.toInt ≠ 0 := by have h9 := c_3; simp only [ge_iff_le, gt_iff_lt, x_lt, x_le, x_eq, ne_eq, Int32.not_lt, Int32.not_le] at h9; simp only [Int32.reduceToInt] at h9; omega
      refine lv_iload_n hx hb dX11_difference_16 rfl (lv_at hl 3 rfl) ?_
      refine lv_iload hx hb dX11_difference_17 (lv_at hl 4 rfl) ?_
      refine x_calliN (va_runS (As := [.int z, .int b]) (rest := []) ⟨hx, hb, hml, hown, hts⟩ (k_canBe l D y H.size z b) (va_cwS 2 hts g_x_m_difference_1 rfl rfl rfl (by decide +kernel) ⟨Nat.le_of_ble_eq_true rfl, Nat.le_of_ble_eq_true rfl⟩) (x_preS hK (x_nilP D H) (x_nilD A)) rfl rfl hl.1 rfl (lv_room (Nat.le_of_ble_eq_true rfl)) dX11_difference_19 ⟨Nat.le_of_ble_eq_true rfl, Nat.le_of_ble_eq_true rfl⟩) hP hD hS hA (fun r_4 u H locs hw hP hD hS => ?_)
      try dsimp only at hw
      refine lv_if_ne (tgt := 29) hx hb dX11_difference_22 (by decide) (fun c_5 => ?_) (fun c_5 => ?_)
      · have kc_5 : r_4.toInt ≠ 0 := by have h9 := c_5; simp only [ge_iff_le, gt_iff_lt, x_lt, x_le, x_eq, ne_eq, Int32.not_lt, Int32.not_le] at h9; simp only [Int32.reduceToInt] at h9; omega
        refine lv_iload_n hx hb dX11_difference_29 rfl (lv_at hl 3 rfl) ?_
        refine lv_i2l hx hb dX11_difference_30 rfl ?_
        refine lv_topl (fun j_6 ej_6 => ?_)
        have vj_6 : j_6.toInt = z.toInt := by rw [ej_6]; exact Int32.toInt_toInt64 _
        refine lv_iload hx hb dX11_difference_31 (lv_at hl 4 rfl) ?_
        refine lv_i2l hx hb dX11_difference_33 rfl ?_
        refine lv_topl (fun j_7 ej_7 => ?_)
        have vj_7 : j_7.toInt = b.toInt := by rw [ej_7]; exact Int32.toInt_toInt64 _
        refine x_calllN (va_runS (As := [.long j_6, .long j_7]) (rest := []) ⟨hx, hb, hml, hown, hts⟩ (k_of l D y H.size j_6 j_7) (va_cwS 2 hts g_x_m_difference_2 rfl rfl rfl (by decide +kernel) ⟨Nat.le_of_ble_eq_true rfl, Nat.le_of_ble_eq_true rfl⟩) (x_preS hK (x_nilP D H) (x_nilD A)) rfl rfl hl.1 rfl (lv_room (Nat.le_of_ble_eq_true rfl)) dX11_difference_34 ⟨Nat.le_of_ble_eq_true rfl, Nat.le_of_ble_eq_true rfl⟩) hP hD hS hA (fun r_8 u H locs hw hP hD hS => ?_)
        try dsimp only at hw
        refine lv_lstore (lv' := [(6, .long r_8), (0, .ref (ad 0)), (1, .int q), (2, .int i), (3, .int z), (4, .int b), (5, .int a)]) hx hb dX11_difference_37 hl (by decide) rfl (fun ls hl => ?_)
        refine lv_aload_n hx hb dX11_difference_39 rfl (lv_at hl 1 rfl) ?_
        refine va_get (D := D) (ci := 10) (v := .ref (ad 130)) (C := RX11) (T := TX11) (N := 11) hx hb hts inX11 hown hK hP 0 xwd_o0 rfl 7 (by decide) fl61 (fun _ h9 => h9) rfl dX11_difference_40 ?_
        refine lv_iload_n hx hb dX11_difference_43 rfl (lv_at hl 3 rfl) ?_
        have hPs : va_P D vwCl (tpw y ad σ) H := x_suP hP [8, 35, 36, 37, 38, 39] rfl
        have hDs : va_D A (tpw y ad σ) := x_suD hD [8, 35, 36, 37, 38, 39] rfl (by decide)
        refine x_calllT (b1 := fun (u : Unit) => (xwd y ad iv pv tv kt σ)) [8, 35, 36, 37, 38, 39] [none, none, none, none, none, none, none, none, some 0, none, none, none, none, none, none, none, none, none, none, none, none, none, none, none, none, none, none, none, none, none, none, none, none, none, none, some 1, some 2, some 3, some 4, some 5, none, none, none, none, none, none, none, none, none, none, none, none] 6 (va_runV (As := [.int i]) (rest := []) ⟨hx, hb, hml, hown, hts⟩ (ka_valueAt l D y H.size ad σ i (show 0 ≤ ((σ.1 139)).toInt from by first | omega | decide) (show ((σ.1 139)).toInt ≤ 1359 from by first | omega | decide)) (cwV 1 hts g_x_m_difference_3 rfl rfl rfl (by decide +kernel) ⟨Nat.le_of_ble_eq_true rfl, Nat.le_of_ble_eq_true rfl⟩) (x_preV (q := (RX8, TX8, 13)) hK hPs hDs (ci := 7) (q0 := 0) rfl tpw_o0) rfl rfl hl.1 rfl (lv_room (Nat.le_of_ble_eq_true rfl)) dX11_difference_44 ⟨Nat.le_of_ble_eq_true rfl, Nat.le_of_ble_eq_true rfl⟩) hP hD hS hA rfl (fun _ => xwd_in_tpw (agr_refl _ _)) (fun _ => rfl) (fun _ => rfl) rfl (fun r_9 u H locs hw hP hD hS => ?_)
        try dsimp only at hw
        have hP : va_P D vwCl (xwd y ad iv pv tv kt σ) H := hP
        have hD : va_D A (xwd y ad iv pv tv kt σ) := hD
        refine lv_lload hx hb dX11_difference_47 (lv_at hl 0 rfl) ?_
        refine x_calllN (va_runS (As := [.long r_9, .long r_8]) (rest := []) ⟨hx, hb, hml, hown, hts⟩ (k_plus l D y H.size r_9 r_8) (va_cwS 2 hts g_x_m_difference_4 rfl rfl rfl (by decide +kernel) ⟨Nat.le_of_ble_eq_true rfl, Nat.le_of_ble_eq_true rfl⟩) (x_preS hK (x_nilP D H) (x_nilD A)) rfl rfl hl.1 rfl (lv_room (Nat.le_of_ble_eq_true rfl)) dX11_difference_49 ⟨Nat.le_of_ble_eq_true rfl, Nat.le_of_ble_eq_true rfl⟩) hP hD hS hA (fun r_10 u H locs hw hP hD hS => ?_)
        try dsimp only at hw
        refine lv_lstore (lv' := [(8, .long r_10), (6, .long r_8), (0, .ref (ad 0)), (1, .int q), (2, .int i), (3, .int z), (4, .int b), (5, .int a)]) hx hb dX11_difference_52 hl (by decide) rfl (fun ls hl => ?_)
        refine lv_lload hx hb dX11_difference_54 (lv_at hl 0 rfl) ?_
        refine lv_lconst (v := 0) hx hb dX11_difference_56 (by decide) ?_
        refine W.lcmp hx hb dX11_difference_57 ?_
        refine lv_if_ne (tgt := 65) hx hb dX11_difference_58 (by decide) (fun c_11 => ?_) (fun c_11 => ?_)
        · have kc_11 : r_10.toInt ≠ 0 := by have h9 := x_tri r_10 (0 : Int64); (try simp only [Int64.reduceToInt] at h9); rcases h9 with ⟨g1, g2⟩ | ⟨g1, g2⟩ | ⟨g1, g2⟩ <;> first | omega | (exfalso; rw [g1] at c_11; revert c_11; decide)
          refine lv_aload_n hx hb dX11_difference_65 rfl (lv_at hl 2 rfl) ?_
          refine va_get (D := D) (ci := 10) (v := .ref (ad 150)) (C := RX11) (T := TX11) (N := 11) hx hb hts inX11 hown hK hP 0 xwd_o0 rfl 8 (by decide) fl65 (fun _ h9 => h9) rfl dX11_difference_66 ?_
          refine lv_aload_n hx hb dX11_difference_69 rfl (lv_at hl 2 rfl) ?_
          refine va_get (D := D) (ci := 10) (v := .ref (ad 80)) (C := RX11) (T := TX11) (N := 11) hx hb hts inX11 hown hK hP 0 xwd_o0 rfl 9 (by decide) fl71 (fun _ h9 => h9) rfl dX11_difference_70 ?_
          refine lv_aload_n hx hb dX11_difference_73 rfl (lv_at hl 2 rfl) ?_
          refine va_get (D := D) (ci := 10) (v := .ref (ad 130)) (C := RX11) (T := TX11) (N := 11) hx hb hts inX11 hown hK hP 0 xwd_o0 rfl 7 (by decide) fl61 (fun _ h9 => h9) rfl dX11_difference_74 ?_
          refine va_get (D := D) (ci := 7) (v := .ref (ad 131)) (C := RX8) (T := TX8) (N := 13) hx hb hts inX8 hown hK hP 8 xwd_o8 rfl 0 (by decide) fl211 (fun _ h9 => h9) rfl dX11_difference_77 ?_
          have hPs : va_P D vwCl (tcw y ad σ) H := x_suP hP [9, 5, 8, 40, 41, 42, 43, 44, 23, 24, 25, 26, 27, 28, 35, 36, 37, 38, 39] rfl
          have hDs : va_D A (tcw y ad σ) := x_suD hD [9, 5, 8, 40, 41, 42, 43, 44, 23, 24, 25, 26, 27, 28, 35, 36, 37, 38, 39] rfl (by decide)
          refine x_callvT (b1 := fun (u : Int32 × Int32 × Int32 × Int32 × Int32 × Int32 × Int32 × Int64 × (Nat → Int64)) => (xwd y ad iv pv tv kt (tJ (sJ (sI (sI (sI (sI (sI (sI (sI σ 156 u.1) 157 u.2.1) 158 u.2.2.1) 159 u.2.2.2.1) 160 u.2.2.2.2.1) 161 u.2.2.2.2.2.1) 162 u.2.2.2.2.2.2.1) 163 u.2.2.2.2.2.2.2.1) 151 u.2.2.2.2.2.2.2.2))) [9, 5, 8, 40, 41, 42, 43, 44, 23, 24, 25, 26, 27, 28, 35, 36, 37, 38, 39] [none, none, none, none, none, some 1, none, none, some 2, some 0, none, none, none, none, none, none, none, none, none, none, none, none, none, some 8, some 9, some 10, some 11, some 12, some 13, none, none, none, none, none, none, some 14, some 15, some 16, some 17, some 18, some 3, some 4, some 5, some 6, some 7, none, none, none, none, none, none, none] 19 (va_runV (As := [.ref (ad 80), .ref (ad 131)]) (rest := []) ⟨hx, hb, hml, hown, hts⟩ (kb_begin l D y H.size ad σ (show 0 ≤ ((σ.1 81)).toInt from by first | omega | decide) (show ((σ.1 81)).toInt ≤ 8 from by first | omega | decide) (show 0 ≤ ((σ.1 85)).toInt from by first | omega | decide) (show ((σ.1 85)).toInt ≤ 350 from by first | omega | decide)) (cwV 2 hts g_x_m_difference_5 rfl rfl rfl (by decide +kernel) ⟨Nat.le_of_ble_eq_true rfl, Nat.le_of_ble_eq_true rfl⟩) (x_preV (q := (RX8, TX8, 13)) hK hPs hDs (ci := 7) (q0 := 0) rfl tcw_o0) rfl rfl hl.1 rfl (lv_room (Nat.le_of_ble_eq_true rfl)) dX11_difference_80 ⟨Nat.le_of_ble_eq_true rfl, Nat.le_of_ble_eq_true rfl⟩) hP hD hS hA rfl (fun _ => xwd_in_tcw (agr_tJ (agr_sJ (agr_sI (agr_sI (agr_sI (agr_sI (agr_sI (agr_sI (agr_sI (agr_refl _ _) rfl) rfl) rfl) rfl) rfl) rfl) rfl) rfl) rfl)) (fun _ => rfl) (fun _ => rfl) rfl (fun u H locs hw hP hD hS => ?_)
          obtain ⟨n_12, n_13, n_14, n_15, n_16, n_17, n_18, j_19, f_20⟩ := u
          try dsimp only at hw
          have hP : va_P D vwCl (xwd y ad iv pv tv kt (tJ (sJ (sI (sI (sI (sI (sI (sI (sI σ 156 n_12) 157 n_13) 158 n_14) 159 n_15) 160 n_16) 161 n_17) 162 n_18) 163 j_19) 151 f_20)) H := hP
          have hD : va_D A (xwd y ad iv pv tv kt (tJ (sJ (sI (sI (sI (sI (sI (sI (sI σ 156 n_12) 157 n_13) 158 n_14) 159 n_15) 160 n_16) 161 n_17) 162 n_18) 163 j_19) 151 f_20)) := hD
          replace hw : n_13.toInt = ((σ.1 81)).toInt ∧ 0 ≤ n_14.toInt ∧ 0 ≤ n_15.toInt ∧ n_15.toInt ≤ 1359 ∧ n_17.toInt = 0 := hw
          obtain ⟨t_21, et_21⟩ : ∃ z9 : OS, z9 = (tJ (sJ (sI (sI (sI (sI (sI (sI (sI σ 156 n_12) 157 n_13) 158 n_14) 159 n_15) 160 n_16) 161 n_17) 162 n_18) 163 j_19) 151 f_20) := ⟨_, rfl⟩
          rw [← et_21] at hP hD
          have qt_21_22 : (t_21.1 22).toInt = (σ.1 22).toInt := by rw [et_21]; rfl
          have qt_21_81 : (t_21.1 81).toInt = (σ.1 81).toInt := by rw [et_21]; rfl
          have qt_21_82 : (t_21.1 82).toInt = (σ.1 82).toInt := by rw [et_21]; rfl
          have qt_21_85 : (t_21.1 85).toInt = (σ.1 85).toInt := by rw [et_21]; rfl
          have qt_21_86 : (t_21.1 86).toInt = (σ.1 86).toInt := by rw [et_21]; rfl
          have qt_21_105 : (t_21.1 105).toInt = (σ.1 105).toInt := by rw [et_21]; rfl
          have qt_21_137 : (t_21.1 137).toInt = (σ.1 137).toInt := by rw [et_21]; rfl
          have qt_21_139 : (t_21.1 139).toInt = (σ.1 139).toInt := by rw [et_21]; rfl
          have qt_21_141 : (t_21.1 141).toInt = (σ.1 141).toInt := by rw [et_21]; rfl
          have qt_21_183 : (t_21.1 183).toInt = (σ.1 183).toInt := by rw [et_21]; rfl
          have qt_21_138 : (t_21.1 138).toInt = (σ.1 138).toInt := by rw [et_21]; rfl
          have qt_21_106 : (t_21.1 106).toInt = (σ.1 106).toInt := by rw [et_21]; rfl
          have qt_21_107 : (t_21.1 107).toInt = (σ.1 107).toInt := by rw [et_21]; rfl
          have qt_21_157 : (t_21.1 157).toInt = n_13.toInt := by rw [et_21]; rfl
          have qt_21_158 : (t_21.1 158).toInt = n_14.toInt := by rw [et_21]; rfl
          have qt_21_159 : (t_21.1 159).toInt = n_15.toInt := by rw [et_21]; rfl
          have qt_21_161 : (t_21.1 161).toInt = n_17.toInt := by rw [et_21]; rfl
          have bt_21_102 : bI (t_21.2.2.1 102) 0 7 := by rw [et_21]; exact hxb102
          have bt_21_133 : bI (t_21.2.2.1 133) 0 1358 := by rw [et_21]; exact hxb133
          have bt_21_134 : bI (t_21.2.2.1 134) 0 1358 := by rw [et_21]; exact hxb134
          have bt_21_135 : bI (t_21.2.2.1 135) 0 1358 := by rw [et_21]; exact hxb135
          have bt_21_153 : bI (t_21.2.2.1 153) 0 1358 := by rw [et_21]; exact hxb153
          have bt_21_154 : bI (t_21.2.2.1 154) 0 1358 := by rw [et_21]; exact hxb154
          have bt_21_155 : bI (t_21.2.2.1 155) 0 1358 := by rw [et_21]; exact hxb155
          have hP : va_P D vwCl (xwd y ad iv pv tv kt t_21) H := hP
          have hD : va_D A (xwd y ad iv pv tv kt t_21) := hD
          obtain ⟨hbg1, hbg2, hbg3, hbg4, hbg5⟩ := hw
          refine lv_aload_n hx hb dX11_difference_83 rfl (lv_at hl 2 rfl) ?_
          refine va_get (D := D) (ci := 10) (v := .ref (ad 150)) (C := RX11) (T := TX11) (N := 11) hx hb hts inX11 hown hK hP 0 xwd_o0 rfl 8 (by decide) fl65 (fun _ h9 => h9) rfl dX11_difference_84 ?_
          refine lv_iload_n hx hb dX11_difference_87 rfl (lv_at hl 4 rfl) ?_
          refine lv_lload hx hb dX11_difference_88 (lv_at hl 0 rfl) ?_
          have hPs : va_P D vwCl (tqw y ad t_21) H := x_suP hP [9, 40, 41, 42, 43, 44] rfl
          have hDs : va_D A (tqw y ad t_21) := x_suD hD [9, 40, 41, 42, 43, 44] rfl (by decide)
          refine x_callvT (b1 := fun (u : (Nat → Int64)) => (xwd y ad iv pv tv kt (tJ t_21 151 u))) [9, 40, 41, 42, 43, 44] [none, none, none, none, none, none, none, none, none, some 0, none, none, none, none, none, none, none, none, none, none, none, none, none, none, none, none, none, none, none, none, none, none, none, none, none, none, none, none, none, none, some 1, some 2, some 3, some 4, some 5, none, none, none, none, none, none, none] 6 (va_runV (As := [.int i, .long r_10]) (rest := []) ⟨hx, hb, hml, hown, hts⟩ (kb_putInput l D y H.size ad t_21 i r_10 (show 0 ≤ ((t_21.1 157)).toInt from by first | omega | decide) (show ((t_21.1 157)).toInt ≤ 8 from by first | omega | decide)) (cwV 2 hts g_x_m_difference_6 rfl rfl rfl (by decide +kernel) ⟨Nat.le_of_ble_eq_true rfl, Nat.le_of_ble_eq_true rfl⟩) (x_preV (q := (RX8, TX8, 13)) hK hPs hDs (ci := 7) (q0 := 0) rfl tqw_o0) rfl rfl hl.1 rfl (lv_room (Nat.le_of_ble_eq_true rfl)) dX11_difference_90 ⟨Nat.le_of_ble_eq_true rfl, Nat.le_of_ble_eq_true rfl⟩) hP hD hS hA rfl (fun _ => xwd_in_tqw (agr_tJ (agr_refl _ _) rfl)) (fun _ => rfl) (fun _ => rfl) rfl (fun u H locs hw hP hD hS => ?_)
          obtain ⟨f_22, rfl⟩ : ∃ z9, z9 = u := ⟨_, rfl⟩
          try dsimp only at hw
          have hP : va_P D vwCl (xwd y ad iv pv tv kt (tJ t_21 151 f_22)) H := hP
          have hD : va_D A (xwd y ad iv pv tv kt (tJ t_21 151 f_22)) := hD
          obtain ⟨t_23, et_23⟩ : ∃ z9 : OS, z9 = (tJ t_21 151 f_22) := ⟨_, rfl⟩
          rw [← et_23] at hP hD
          have qt_23_22 : (t_23.1 22).toInt = (t_21.1 22).toInt := by rw [et_23]; rfl
          have qt_23_81 : (t_23.1 81).toInt = (t_21.1 81).toInt := by rw [et_23]; rfl
          have qt_23_82 : (t_23.1 82).toInt = (t_21.1 82).toInt := by rw [et_23]; rfl
          have qt_23_85 : (t_23.1 85).toInt = (t_21.1 85).toInt := by rw [et_23]; rfl
          have qt_23_86 : (t_23.1 86).toInt = (t_21.1 86).toInt := by rw [et_23]; rfl
          have qt_23_105 : (t_23.1 105).toInt = (t_21.1 105).toInt := by rw [et_23]; rfl
          have qt_23_137 : (t_23.1 137).toInt = (t_21.1 137).toInt := by rw [et_23]; rfl
          have qt_23_139 : (t_23.1 139).toInt = (t_21.1 139).toInt := by rw [et_23]; rfl
          have qt_23_141 : (t_23.1 141).toInt = (t_21.1 141).toInt := by rw [et_23]; rfl
          have qt_23_183 : (t_23.1 183).toInt = (t_21.1 183).toInt := by rw [et_23]; rfl
          have qt_23_138 : (t_23.1 138).toInt = (t_21.1 138).toInt := by rw [et_23]; rfl
          have qt_23_106 : (t_23.1 106).toInt = (t_21.1 106).toInt := by rw [et_23]; rfl
          have qt_23_107 : (t_23.1 107).toInt = (t_21.1 107).toInt := by rw [et_23]; rfl
          have qt_23_157 : (t_23.1 157).toInt = (t_21.1 157).toInt := by rw [et_23]; rfl
          have qt_23_158 : (t_23.1 158).toInt = (t_21.1 158).toInt := by rw [et_23]; rfl
          have qt_23_159 : (t_23.1 159).toInt = (t_21.1 159).toInt := by rw [et_23]; rfl
          have qt_23_161 : (t_23.1 161).toInt = (t_21.1 161).toInt := by rw [et_23]; rfl
          have bt_23_102 : bI (t_23.2.2.1 102) 0 7 := by rw [et_23]; exact bt_21_102
          have bt_23_133 : bI (t_23.2.2.1 133) 0 1358 := by rw [et_23]; exact bt_21_133
          have bt_23_134 : bI (t_23.2.2.1 134) 0 1358 := by rw [et_23]; exact bt_21_134
          have bt_23_135 : bI (t_23.2.2.1 135) 0 1358 := by rw [et_23]; exact bt_21_135
          have bt_23_153 : bI (t_23.2.2.1 153) 0 1358 := by rw [et_23]; exact bt_21_153
          have bt_23_154 : bI (t_23.2.2.1 154) 0 1358 := by rw [et_23]; exact bt_21_154
          have bt_23_155 : bI (t_23.2.2.1 155) 0 1358 := by rw [et_23]; exact bt_21_155
          have hP : va_P D vwCl (xwd y ad iv pv tv kt t_23) H := hP
          have hD : va_D A (xwd y ad iv pv tv kt t_23) := hD
          refine lv_aload_n hx hb dX11_difference_93 rfl (lv_at hl 2 rfl) ?_
          refine va_get (D := D) (ci := 10) (v := .ref (ad 110)) (C := RX11) (T := TX11) (N := 11) hx hb hts inX11 hown hK hP 0 xwd_o0 rfl 3 (by decide) fl33 (fun _ h9 => h9) rfl dX11_difference_94 ?_
          refine lv_aload_n hx hb dX11_difference_97 rfl (lv_at hl 2 rfl) ?_
          refine va_get (D := D) (ci := 10) (v := .ref (ad 80)) (C := RX11) (T := TX11) (N := 11) hx hb hts inX11 hown hK hP 0 xwd_o0 rfl 9 (by decide) fl71 (fun _ h9 => h9) rfl dX11_difference_98 ?_
          refine lv_aload_n hx hb dX11_difference_101 rfl (lv_at hl 2 rfl) ?_
          refine va_get (D := D) (ci := 10) (v := .ref (ad 150)) (C := RX11) (T := TX11) (N := 11) hx hb hts inX11 hown hK hP 0 xwd_o0 rfl 8 (by decide) fl65 (fun _ h9 => h9) rfl dX11_difference_102 ?_
          have hPs : va_P D vwCl (md0 y ad pv tv t_23) H := x_suP hP [7, 5, 9, 33, 34, 23, 24, 25, 26, 27, 28, 40, 41, 42, 43, 44] rfl
          have hDs : va_D A (md0 y ad pv tv t_23) := x_suD hD [7, 5, 9, 33, 34, 23, 24, 25, 26, 27, 28, 40, 41, 42, 43, 44] rfl (by decide)
          refine x_calliT (b1 := fun (u : (Nat → Int32) × (Nat → Int32) × Int32 × Int32 × (Nat → Int32) × (Nat → Int32) × (Nat → Int32) × (Nat → Int64) × Int32 × Int32 × (Nat → Int32) × Int32 × Int32 × Int64 × Int32) => (xwd y ad iv (.ref (ad 80)) (.ref (ad 150)) kt (sI (sJ (sI (sI (tI (sI (sI (tJ (tI (tI (tI (sI (sI (tI (tI t_23 111 u.1) 112 u.2.1) 115 u.2.2.1) 116 u.2.2.2.1) 152 u.2.2.2.2.1) 153 u.2.2.2.2.2.1) 154 u.2.2.2.2.2.2.1) 151 u.2.2.2.2.2.2.2.1) 159 u.2.2.2.2.2.2.2.2.1) 160 u.2.2.2.2.2.2.2.2.2.1) 155 u.2.2.2.2.2.2.2.2.2.2.1) 161 u.2.2.2.2.2.2.2.2.2.2.2.1) 162 u.2.2.2.2.2.2.2.2.2.2.2.2.1) 163 u.2.2.2.2.2.2.2.2.2.2.2.2.2.1) 156 u.2.2.2.2.2.2.2.2.2.2.2.2.2.2))) [7, 5, 9, 33, 34, 23, 24, 25, 26, 27, 28, 40, 41, 42, 43, 44] [none, none, none, none, none, some 1, none, some 0, none, some 2, none, none, none, none, none, none, none, none, none, none, none, none, none, some 5, some 6, some 7, some 8, some 9, some 10, none, none, none, none, some 3, some 4, none, none, none, none, none, some 11, some 12, some 13, some 14, some 15, none, none, none, none, none, none, none] 16 (va_runV (As := [.ref (ad 80), .ref (ad 150)]) (rest := []) ⟨hx, hb, hml, hown, hts⟩ (md_play l D y H.size ad pv tv t_23 (show 0 ≤ ((t_23.1 159)).toInt from by first | omega | decide) (show ((t_23.1 159)).toInt ≤ 1359 from by first | omega | decide) (show 0 ≤ ((t_23.1 161)).toInt from by first | omega | decide) (show ((t_23.1 161)).toInt ≤ 12 from by first | omega | decide) (show 0 ≤ ((t_23.1 157)).toInt from by first | omega | decide) (show ((t_23.1 157)).toInt ≤ 8 from by first | omega | decide) (show 0 ≤ ((t_23.1 86)).toInt from by first | omega | decide) (show ((t_23.1 86)).toInt ≤ 700 from by first | omega | decide) (show 0 ≤ ((t_23.1 82)).toInt from by first | omega | decide) (show ((t_23.1 82)).toInt ≤ 4 from by first | omega | decide) bt_23_153 bt_23_154 bt_23_155) (cwV 2 hts g_x_m_difference_7 rfl rfl rfl (by decide +kernel) ⟨Nat.le_of_ble_eq_true rfl, Nat.le_of_ble_eq_true rfl⟩) (x_preV (q := (RX4, TX4, 6)) hK hPs hDs (ci := 3) (q0 := 0) rfl md0_o0) rfl rfl hl.1 rfl (lv_room (Nat.le_of_ble_eq_true rfl)) dX11_difference_105 ⟨Nat.le_of_ble_eq_true rfl, Nat.le_of_ble_eq_true rfl⟩) hP hD hS hA rfl (fun _ => xwd_in_md0 (agr_sI (agr_sJ (agr_sI (agr_sI (agr_tI (agr_sI (agr_sI (agr_tJ (agr_tI (agr_tI (agr_tI (agr_sI (agr_sI (agr_tI (agr_tI (agr_refl _ _) rfl) rfl) rfl) rfl) rfl) rfl) rfl) rfl) rfl) rfl) rfl) rfl) rfl) rfl) rfl)) (fun _ => rfl) (fun _ => rfl) rfl (fun r_24 u H locs hw hP hD hS => ?_)
          obtain ⟨f_25, f_26, n_27, n_28, f_29, f_30, f_31, f_32, n_33, n_34, f_35, n_36, n_37, j_38, n_39⟩ := u
          try dsimp only at hw
          have hP : va_P D vwCl (xwd y ad iv (.ref (ad 80)) (.ref (ad 150)) kt (sI (sJ (sI (sI (tI (sI (sI (tJ (tI (tI (tI (sI (sI (tI (tI t_23 111 f_25) 112 f_26) 115 n_27) 116 n_28) 152 f_29) 153 f_30) 154 f_31) 151 f_32) 159 n_33) 160 n_34) 155 f_35) 161 n_36) 162 n_37) 163 j_38) 156 n_39)) H := hP
          have hD : va_D A (xwd y ad iv (.ref (ad 80)) (.ref (ad 150)) kt (sI (sJ (sI (sI (tI (sI (sI (tJ (tI (tI (tI (sI (sI (tI (tI t_23 111 f_25) 112 f_26) 115 n_27) 116 n_28) 152 f_29) 153 f_30) 154 f_31) 151 f_32) 159 n_33) 160 n_34) 155 f_35) 161 n_36) 162 n_37) 163 j_38) 156 n_39)) := hD
          replace hw : (0 ≤ n_27.toInt ∧ n_27.toInt ≤ 64 ∧ 0 ≤ n_33.toInt ∧ n_33.toInt ≤ 1359 ∧ 0 ≤ n_36.toInt ∧ n_36.toInt ≤ 12) ∧ bI f_30 0 1358 ∧ bI f_31 0 1358 ∧ bI f_35 0 1358 := hw
          obtain ⟨hw, hg_40, hg_41, hg_42⟩ := hw
          obtain ⟨t_43, et_43⟩ : ∃ z9 : OS, z9 = (sI (sJ (sI (sI (tI (sI (sI (tJ (tI (tI (tI (sI (sI (tI (tI t_23 111 f_25) 112 f_26) 115 n_27) 116 n_28) 152 f_29) 153 f_30) 154 f_31) 151 f_32) 159 n_33) 160 n_34) 155 f_35) 161 n_36) 162 n_37) 163 j_38) 156 n_39) := ⟨_, rfl⟩
          rw [← et_43] at hP hD
          have qt_43_22 : (t_43.1 22).toInt = (t_23.1 22).toInt := by rw [et_43]; rfl
          have qt_43_81 : (t_43.1 81).toInt = (t_23.1 81).toInt := by rw [et_43]; rfl
          have qt_43_82 : (t_43.1 82).toInt = (t_23.1 82).toInt := by rw [et_43]; rfl
          have qt_43_85 : (t_43.1 85).toInt = (t_23.1 85).toInt := by rw [et_43]; rfl
          have qt_43_86 : (t_43.1 86).toInt = (t_23.1 86).toInt := by rw [et_43]; rfl
          have qt_43_105 : (t_43.1 105).toInt = (t_23.1 105).toInt := by rw [et_43]; rfl
          have qt_43_137 : (t_43.1 137).toInt = (t_23.1 137).toInt := by rw [et_43]; rfl
          have qt_43_139 : (t_43.1 139).toInt = (t_23.1 139).toInt := by rw [et_43]; rfl
          have qt_43_141 : (t_43.1 141).toInt = (t_23.1 141).toInt := by rw [et_43]; rfl
          have qt_43_183 : (t_43.1 183).toInt = (t_23.1 183).toInt := by rw [et_43]; rfl
          have qt_43_138 : (t_43.1 138).toInt = (t_23.1 138).toInt := by rw [et_43]; rfl
          have qt_43_106 : (t_43.1 106).toInt = (t_23.1 106).toInt := by rw [et_43]; rfl
          have qt_43_107 : (t_43.1 107).toInt = (t_23.1 107).toInt := by rw [et_43]; rfl
          have qt_43_157 : (t_43.1 157).toInt = (t_23.1 157).toInt := by rw [et_43]; rfl
          have qt_43_158 : (t_43.1 158).toInt = (t_23.1 158).toInt := by rw [et_43]; rfl
          have qt_43_159 : (t_43.1 159).toInt = n_33.toInt := by rw [et_43]; rfl
          have qt_43_161 : (t_43.1 161).toInt = n_36.toInt := by rw [et_43]; rfl
          have bt_43_102 : bI (t_43.2.2.1 102) 0 7 := by rw [et_43]; exact bt_23_102
          have bt_43_133 : bI (t_43.2.2.1 133) 0 1358 := by rw [et_43]; exact bt_23_133
          have bt_43_134 : bI (t_43.2.2.1 134) 0 1358 := by rw [et_43]; exact bt_23_134
          have bt_43_135 : bI (t_43.2.2.1 135) 0 1358 := by rw [et_43]; exact bt_23_135
          have bt_43_153 : bI (t_43.2.2.1 153) 0 1358 := by rw [et_43]; exact hg_40
          have bt_43_154 : bI (t_43.2.2.1 154) 0 1358 := by rw [et_43]; exact hg_41
          have bt_43_155 : bI (t_43.2.2.1 155) 0 1358 := by rw [et_43]; exact hg_42
          have hP : va_P D vwCl (xwd y ad iv (.ref (ad 80)) (.ref (ad 150)) kt t_43) H := hP
          have hD : va_D A (xwd y ad iv (.ref (ad 80)) (.ref (ad 150)) kt t_43) := hD
          refine lv_pop hx hb dX11_difference_108 rfl ?_
          refine lv_aload_n hx hb dX11_difference_109 rfl (lv_at hl 2 rfl) ?_
          refine va_get (D := D) (ci := 10) (v := .ref (ad 150)) (C := RX11) (T := TX11) (N := 11) hx hb hts inX11 hown hK hP 0 xwd_o0 rfl 8 (by decide) fl65 (fun _ h9 => h9) rfl dX11_difference_110 ?_
          refine va_get (D := D) (ci := 7) (v := .int (t_43.1 156)) (C := RX8) (T := TX8) (N := 13) hx hb hts inX8 hown hK hP 9 xwd_o9 rfl 5 (by decide) fl168 (fun _ h9 => h9) rfl dX11_difference_113 ?_
          refine lv_if_eq (tgt := 123) hx hb dX11_difference_116 (by decide) (fun c_44 => ?_) (fun c_44 => ?_)
          · have kc_44 : (t_43.1 156).toInt = 0 := by have h9 := c_44; simp only [ge_iff_le, gt_iff_lt, x_lt, x_le, x_eq, ne_eq, Int32.not_lt, Int32.not_le] at h9; simp only [Int32.reduceToInt] at h9; omega
            refine lv_aload_n hx hb dX11_difference_123 rfl (lv_at hl 2 rfl) ?_
            refine va_get (D := D) (ci := 10) (v := .ref (ad 150)) (C := RX11) (T := TX11) (N := 11) hx hb hts inX11 hown hK hP 0 xwd_o0 rfl 8 (by decide) fl65 (fun _ h9 => h9) rfl dX11_difference_124 ?_
            refine lv_iload_n hx hb dX11_difference_127 rfl (lv_at hl 3 rfl) ?_
            have hPs : va_P D vwCl (tqw y ad t_43) H := x_suP hP [9, 40, 41, 42, 43, 44] rfl
            have hDs : va_D A (tqw y ad t_43) := x_suD hD [9, 40, 41, 42, 43, 44] rfl (by decide)
            refine x_calllT (b1 := fun (u : Unit) => (xwd y ad iv (.ref (ad 80)) (.ref (ad 150)) kt t_43)) [9, 40, 41, 42, 43, 44] [none, none, none, none, none, none, none, none, none, some 0, none, none, none, none, none, none, none, none, none, none, none, none, none, none, none, none, none, none, none, none, none, none, none, none, none, none, none, none, none, none, some 1, some 2, some 3, some 4, some 5, none, none, none, none, none, none, none] 6 (va_runV (As := [.int q]) (rest := []) ⟨hx, hb, hml, hown, hts⟩ (kb_resultValue l D y H.size ad t_43 q (show 0 ≤ ((t_43.1 159)).toInt from by first | omega | decide) (show ((t_43.1 159)).toInt ≤ 1359 from by first | omega | decide) (show 0 ≤ ((t_43.1 161)).toInt from by first | omega | decide) (show ((t_43.1 161)).toInt ≤ 12 from by first | omega | decide)) (cwV 1 hts g_x_m_difference_8 rfl rfl rfl (by decide +kernel) ⟨Nat.le_of_ble_eq_true rfl, Nat.le_of_ble_eq_true rfl⟩) (x_preV (q := (RX8, TX8, 13)) hK hPs hDs (ci := 7) (q0 := 0) rfl tqw_o0) rfl rfl hl.1 rfl (lv_room (Nat.le_of_ble_eq_true rfl)) dX11_difference_128 ⟨Nat.le_of_ble_eq_true rfl, Nat.le_of_ble_eq_true rfl⟩) hP hD hS hA rfl (fun _ => xwd_in_tqw (agr_refl _ _)) (fun _ => rfl) (fun _ => rfl) rfl (fun r_45 u H locs hw hP hD hS => ?_)
            try dsimp only at hw
            have hP : va_P D vwCl (xwd y ad iv (.ref (ad 80)) (.ref (ad 150)) kt t_43) H := hP
            have hD : va_D A (xwd y ad iv (.ref (ad 80)) (.ref (ad 150)) kt t_43) := hD
            refine lv_aload_n hx hb dX11_difference_131 rfl (lv_at hl 2 rfl) ?_
            refine va_get (D := D) (ci := 10) (v := .ref (ad 130)) (C := RX11) (T := TX11) (N := 11) hx hb hts inX11 hown hK hP 0 xwd_o0 rfl 7 (by decide) fl61 (fun _ h9 => h9) rfl dX11_difference_132 ?_
            refine lv_iload_n hx hb dX11_difference_135 rfl (lv_at hl 3 rfl) ?_
            have hPs : va_P D vwCl (tpw y ad t_43) H := x_suP hP [8, 35, 36, 37, 38, 39] rfl
            have hDs : va_D A (tpw y ad t_43) := x_suD hD [8, 35, 36, 37, 38, 39] rfl (by decide)
            refine x_calllT (b1 := fun (u : Unit) => (xwd y ad iv (.ref (ad 80)) (.ref (ad 150)) kt t_43)) [8, 35, 36, 37, 38, 39] [none, none, none, none, none, none, none, none, some 0, none, none, none, none, none, none, none, none, none, none, none, none, none, none, none, none, none, none, none, none, none, none, none, none, none, none, some 1, some 2, some 3, some 4, some 5, none, none, none, none, none, none, none, none, none, none, none, none] 6 (va_runV (As := [.int q]) (rest := [.long r_45]) ⟨hx, hb, hml, hown, hts⟩ (ka_resultValue l D y H.size ad t_43 q (show 0 ≤ ((t_43.1 139)).toInt from by first | omega | decide) (show ((t_43.1 139)).toInt ≤ 1359 from by first | omega | decide) (show 0 ≤ ((t_43.1 141)).toInt from by first | omega | decide) (show ((t_43.1 141)).toInt ≤ 12 from by first | omega | decide)) (cwV 1 hts g_x_m_difference_9 rfl rfl rfl (by decide +kernel) ⟨Nat.le_of_ble_eq_true rfl, Nat.le_of_ble_eq_true rfl⟩) (x_preV (q := (RX8, TX8, 13)) hK hPs hDs (ci := 7) (q0 := 0) rfl tpw_o0) rfl rfl hl.1 rfl (lv_room (Nat.le_of_ble_eq_true rfl)) dX11_difference_136 ⟨Nat.le_of_ble_eq_true rfl, Nat.le_of_ble_eq_true rfl⟩) hP hD hS hA rfl (fun _ => xwd_in_tpw (agr_refl _ _)) (fun _ => rfl) (fun _ => rfl) rfl (fun r_46 u H locs hw hP hD hS => ?_)
            try dsimp only at hw
            have hP : va_P D vwCl (xwd y ad iv (.ref (ad 80)) (.ref (ad 150)) kt t_43) H := hP
            have hD : va_D A (xwd y ad iv (.ref (ad 80)) (.ref (ad 150)) kt t_43) := hD
            refine x_calllN (va_runS (As := [.long r_45, .long r_46]) (rest := []) ⟨hx, hb, hml, hown, hts⟩ (k_minus l D y H.size r_45 r_46) (va_cwS 2 hts g_x_m_difference_10 rfl rfl rfl (by decide +kernel) ⟨Nat.le_of_ble_eq_true rfl, Nat.le_of_ble_eq_true rfl⟩) (x_preS hK (x_nilP D H) (x_nilD A)) rfl rfl hl.1 rfl (lv_room (Nat.le_of_ble_eq_true rfl)) dX11_difference_139 ⟨Nat.le_of_ble_eq_true rfl, Nat.le_of_ble_eq_true rfl⟩) hP hD hS hA (fun r_47 u H locs hw hP hD hS => ?_)
            try dsimp only at hw
            refine lv_lstore (lv' := [(10, .long r_47), (8, .long r_10), (6, .long r_8), (0, .ref (ad 0)), (1, .int q), (2, .int i), (3, .int z), (4, .int b), (5, .int a)]) hx hb dX11_difference_142 hl (by decide) rfl (fun ls hl => ?_)
            refine lv_lload hx hb dX11_difference_144 (lv_at hl 0 rfl) ?_
            refine lv_lload hx hb dX11_difference_146 (lv_at hl 2 rfl) ?_
            refine x_calllN (va_runS (As := [.long r_47, .long r_8]) (rest := []) ⟨hx, hb, hml, hown, hts⟩ (k_over l D y H.size r_47 r_8) (va_cwS 2 hts g_x_m_difference_11 rfl rfl rfl (by decide +kernel) ⟨Nat.le_of_ble_eq_true rfl, Nat.le_of_ble_eq_true rfl⟩) (x_preS hK (x_nilP D H) (x_nilD A)) rfl rfl hl.1 rfl (lv_room (Nat.le_of_ble_eq_true rfl)) dX11_difference_148 ⟨Nat.le_of_ble_eq_true rfl, Nat.le_of_ble_eq_true rfl⟩) hP hD hS hA (fun r_48 u H locs hw hP hD hS => ?_)
            try dsimp only at hw
            refine lv_iload hx hb dX11_difference_151 (lv_at hl 8 rfl) ?_
            refine x_calllN (va_runS (As := [.long r_48, .int a]) (rest := []) ⟨hx, hb, hml, hown, hts⟩ (x_answer l D y H.size r_48 a) (cwS 2 hts g_x_m_difference_12 rfl rfl rfl (by decide +kernel) ⟨Nat.le_of_ble_eq_true rfl, Nat.le_of_ble_eq_true rfl⟩) (x_preS hK (x_nilP D H) (x_nilD A)) rfl rfl hl.1 rfl (lv_room (Nat.le_of_ble_eq_true rfl)) dX11_difference_153 ⟨Nat.le_of_ble_eq_true rfl, Nat.le_of_ble_eq_true rfl⟩) hP hD hS hA (fun r_49 u H locs hw hP hD hS => ?_)
            try dsimp only at hw
            exact x_lretW (v := r_49) (u := (t_43, (.ref (ad 80)), (.ref (ad 150)))) hx hb hr hQ (by (try dsimp only); exact ⟨(show 0 ≤ ((t_43.1 22)).toInt ∧ ((t_43.1 22)).toInt ≤ 700 ∧ 0 ≤ ((t_43.1 81)).toInt ∧ ((t_43.1 81)).toInt ≤ 8 ∧ 0 ≤ ((t_43.1 82)).toInt ∧ ((t_43.1 82)).toInt ≤ 4 ∧ 0 ≤ ((t_43.1 85)).toInt ∧ ((t_43.1 85)).toInt ≤ 350 ∧ 0 ≤ ((t_43.1 86)).toInt ∧ ((t_43.1 86)).toInt ≤ 700 ∧ 0 ≤ ((t_43.1 105)).toInt ∧ ((t_43.1 105)).toInt ≤ 8 ∧ 0 ≤ ((t_43.1 137)).toInt ∧ ((t_43.1 137)).toInt ≤ 8 ∧ 0 ≤ ((t_43.1 139)).toInt ∧ ((t_43.1 139)).toInt ≤ 1359 ∧ 0 ≤ ((t_43.1 141)).toInt ∧ ((t_43.1 141)).toInt ≤ 12 ∧ 0 ≤ ((t_43.1 183)).toInt ∧ ((t_43.1 183)).toInt ≤ 8 ∧ 0 ≤ ((t_43.1 138)).toInt ∧ 0 ≤ ((t_43.1 106)).toInt ∧ ((t_43.1 106)).toInt ≤ ((t_43.1 107)).toInt ∧ ((t_43.1 107)).toInt ≤ 40 ∧ bI ((t_43.2.2.1 102)) 0 7 ∧ bI ((t_43.2.2.1 133)) 0 1358 ∧ bI ((t_43.2.2.1 134)) 0 1358 ∧ bI ((t_43.2.2.1 135)) 0 1358 ∧ bI ((t_43.2.2.1 153)) 0 1358 ∧ bI ((t_43.2.2.1 154)) 0 1358 ∧ bI ((t_43.2.2.1 155)) 0 1358 from ⟨by omega, by omega, by omega, by omega, by omega, by omega, by omega, by omega, by omega, by omega, by omega, by omega, by omega, by omega, by omega, by omega, by omega, by omega, by omega, by omega, by omega, by omega, by omega, by omega, bt_43_102, bt_43_133, bt_43_134, bt_43_135, bt_43_153, bt_43_154, bt_43_155⟩), (Int32.toInt_inj.mp (by omega))⟩) hP hD hK hS dX11_difference_156 hlocks
          · have kc_44 : (t_43.1 156).toInt ≠ 0 := by have h9 := c_44; simp only [ge_iff_le, gt_iff_lt, x_lt, x_le, x_eq, ne_eq, Int32.not_lt, Int32.not_le] at h9; simp only [Int32.reduceToInt] at h9; omega
            refine lv_ldc2 (v := (-2000000000)) hx hb hown (hts (.constantLong RX11 192 (-2000000000)) (List.mem_of_getElem? (i := 7) rfl)) dX11_difference_119 ?_
            exact x_lretW (v := (-2000000000)) (u := (t_43, (.ref (ad 80)), (.ref (ad 150)))) hx hb hr hQ (by (try dsimp only); exact ⟨(show 0 ≤ ((t_43.1 22)).toInt ∧ ((t_43.1 22)).toInt ≤ 700 ∧ 0 ≤ ((t_43.1 81)).toInt ∧ ((t_43.1 81)).toInt ≤ 8 ∧ 0 ≤ ((t_43.1 82)).toInt ∧ ((t_43.1 82)).toInt ≤ 4 ∧ 0 ≤ ((t_43.1 85)).toInt ∧ ((t_43.1 85)).toInt ≤ 350 ∧ 0 ≤ ((t_43.1 86)).toInt ∧ ((t_43.1 86)).toInt ≤ 700 ∧ 0 ≤ ((t_43.1 105)).toInt ∧ ((t_43.1 105)).toInt ≤ 8 ∧ 0 ≤ ((t_43.1 137)).toInt ∧ ((t_43.1 137)).toInt ≤ 8 ∧ 0 ≤ ((t_43.1 139)).toInt ∧ ((t_43.1 139)).toInt ≤ 1359 ∧ 0 ≤ ((t_43.1 141)).toInt ∧ ((t_43.1 141)).toInt ≤ 12 ∧ 0 ≤ ((t_43.1 183)).toInt ∧ ((t_43.1 183)).toInt ≤ 8 ∧ 0 ≤ ((t_43.1 138)).toInt ∧ 0 ≤ ((t_43.1 106)).toInt ∧ ((t_43.1 106)).toInt ≤ ((t_43.1 107)).toInt ∧ ((t_43.1 107)).toInt ≤ 40 ∧ bI ((t_43.2.2.1 102)) 0 7 ∧ bI ((t_43.2.2.1 133)) 0 1358 ∧ bI ((t_43.2.2.1 134)) 0 1358 ∧ bI ((t_43.2.2.1 135)) 0 1358 ∧ bI ((t_43.2.2.1 153)) 0 1358 ∧ bI ((t_43.2.2.1 154)) 0 1358 ∧ bI ((t_43.2.2.1 155)) 0 1358 from ⟨by omega, by omega, by omega, by omega, by omega, by omega, by omega, by omega, by omega, by omega, by omega, by omega, by omega, by omega, by omega, by omega, by omega, by omega, by omega, by omega, by omega, by omega, by omega, by omega, bt_43_102, bt_43_133, bt_43_134, bt_43_135, bt_43_153, bt_43_154, bt_43_155⟩), (Int32.toInt_inj.mp (by omega))⟩) hP hD hK hS dX11_difference_122 hlocks
        · have kc_11 : r_10.toInt = 0 := by have h9 := x_tri r_10 (0 : Int64); (try simp only [Int64.reduceToInt] at h9); rcases h9 with ⟨g1, g2⟩ | ⟨g1, g2⟩ | ⟨g1, g2⟩ <;> first | omega | (exfalso; rw [g1] at c_11; revert c_11; decide)
          refine lv_ldc2 (v := (-2000000000)) hx hb hown (hts (.constantLong RX11 192 (-2000000000)) (List.mem_of_getElem? (i := 7) rfl)) dX11_difference_61 ?_
          exact x_lretW (v := (-2000000000)) (u := (σ, pv, tv)) hx hb hr hQ (by (try dsimp only); exact ⟨(show 0 ≤ ((σ.1 22)).toInt ∧ ((σ.1 22)).toInt ≤ 700 ∧ 0 ≤ ((σ.1 81)).toInt ∧ ((σ.1 81)).toInt ≤ 8 ∧ 0 ≤ ((σ.1 82)).toInt ∧ ((σ.1 82)).toInt ≤ 4 ∧ 0 ≤ ((σ.1 85)).toInt ∧ ((σ.1 85)).toInt ≤ 350 ∧ 0 ≤ ((σ.1 86)).toInt ∧ ((σ.1 86)).toInt ≤ 700 ∧ 0 ≤ ((σ.1 105)).toInt ∧ ((σ.1 105)).toInt ≤ 8 ∧ 0 ≤ ((σ.1 137)).toInt ∧ ((σ.1 137)).toInt ≤ 8 ∧ 0 ≤ ((σ.1 139)).toInt ∧ ((σ.1 139)).toInt ≤ 1359 ∧ 0 ≤ ((σ.1 141)).toInt ∧ ((σ.1 141)).toInt ≤ 12 ∧ 0 ≤ ((σ.1 183)).toInt ∧ ((σ.1 183)).toInt ≤ 8 ∧ 0 ≤ ((σ.1 138)).toInt ∧ 0 ≤ ((σ.1 106)).toInt ∧ ((σ.1 106)).toInt ≤ ((σ.1 107)).toInt ∧ ((σ.1 107)).toInt ≤ 40 ∧ bI ((σ.2.2.1 102)) 0 7 ∧ bI ((σ.2.2.1 133)) 0 1358 ∧ bI ((σ.2.2.1 134)) 0 1358 ∧ bI ((σ.2.2.1 135)) 0 1358 ∧ bI ((σ.2.2.1 153)) 0 1358 ∧ bI ((σ.2.2.1 154)) 0 1358 ∧ bI ((σ.2.2.1 155)) 0 1358 from ⟨by omega, by omega, by omega, by omega, by omega, by omega, by omega, by omega, by omega, by omega, by omega, by omega, by omega, by omega, by omega, by omega, by omega, by omega, by omega, by omega, by omega, by omega, by omega, by omega, hxb102, hxb133, hxb134, hxb135, hxb153, hxb154, hxb155⟩), rfl⟩) hP hD hK hS dX11_difference_64 hlocks
      · have kc_5 : r_4.toInt = 0 := by have h9 := c_5; simp only [ge_iff_le, gt_iff_lt, x_lt, x_le, x_eq, ne_eq, Int32.not_lt, Int32.not_le] at h9; simp only [Int32.reduceToInt] at h9; omega
        refine lv_ldc2 (v := (-2000000000)) hx hb hown (hts (.constantLong RX11 192 (-2000000000)) (List.mem_of_getElem? (i := 7) rfl)) dX11_difference_25 ?_
        exact x_lretW (v := (-2000000000)) (u := (σ, pv, tv)) hx hb hr hQ (by (try dsimp only); exact ⟨(show 0 ≤ ((σ.1 22)).toInt ∧ ((σ.1 22)).toInt ≤ 700 ∧ 0 ≤ ((σ.1 81)).toInt ∧ ((σ.1 81)).toInt ≤ 8 ∧ 0 ≤ ((σ.1 82)).toInt ∧ ((σ.1 82)).toInt ≤ 4 ∧ 0 ≤ ((σ.1 85)).toInt ∧ ((σ.1 85)).toInt ≤ 350 ∧ 0 ≤ ((σ.1 86)).toInt ∧ ((σ.1 86)).toInt ≤ 700 ∧ 0 ≤ ((σ.1 105)).toInt ∧ ((σ.1 105)).toInt ≤ 8 ∧ 0 ≤ ((σ.1 137)).toInt ∧ ((σ.1 137)).toInt ≤ 8 ∧ 0 ≤ ((σ.1 139)).toInt ∧ ((σ.1 139)).toInt ≤ 1359 ∧ 0 ≤ ((σ.1 141)).toInt ∧ ((σ.1 141)).toInt ≤ 12 ∧ 0 ≤ ((σ.1 183)).toInt ∧ ((σ.1 183)).toInt ≤ 8 ∧ 0 ≤ ((σ.1 138)).toInt ∧ 0 ≤ ((σ.1 106)).toInt ∧ ((σ.1 106)).toInt ≤ ((σ.1 107)).toInt ∧ ((σ.1 107)).toInt ≤ 40 ∧ bI ((σ.2.2.1 102)) 0 7 ∧ bI ((σ.2.2.1 133)) 0 1358 ∧ bI ((σ.2.2.1 134)) 0 1358 ∧ bI ((σ.2.2.1 135)) 0 1358 ∧ bI ((σ.2.2.1 153)) 0 1358 ∧ bI ((σ.2.2.1 154)) 0 1358 ∧ bI ((σ.2.2.1 155)) 0 1358 from ⟨by omega, by omega, by omega, by omega, by omega, by omega, by omega, by omega, by omega, by omega, by omega, by omega, by omega, by omega, by omega, by omega, by omega, by omega, by omega, by omega, by omega, by omega, by omega, by omega, hxb102, hxb133, hxb134, hxb135, hxb153, hxb154, hxb155⟩), rfl⟩) hP hD hK hS dX11_difference_28 hlocks

