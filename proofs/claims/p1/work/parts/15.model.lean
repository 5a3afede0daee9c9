theorem dX12_isIn_0 : decode cX12_isIn 0 = .ok (.lload_n 0, 1) := by decide +kernel
theorem dX12_isIn_1 : decode cX12_isIn 1 = .ok (.lload_n 2, 1) := by decide +kernel
theorem dX12_isIn_2 : decode cX12_isIn 2 = .ok (.lcmp, 1) := by decide +kernel
theorem dX12_isIn_3 : decode cX12_isIn 3 = .ok (.ifCond .lt 14, 3) := by decide +kernel
theorem dX12_isIn_6 : decode cX12_isIn 6 = .ok (.lload_n 0, 1) := by decide +kernel
theorem dX12_isIn_7 : decode cX12_isIn 7 = .ok (.lload 4, 2) := by decide +kernel
theorem dX12_isIn_9 : decode cX12_isIn 9 = .ok (.lcmp, 1) := by decide +kernel
theorem dX12_isIn_10 : decode cX12_isIn 10 = .ok (.ifCond .gt 7, 3) := by decide +kernel
theorem dX12_isIn_13 : decode cX12_isIn 13 = .ok (.iconst 1, 1) := by decide +kernel
theorem dX12_isIn_14 : decode cX12_isIn 14 = .ok (.goto 4, 3) := by decide +kernel
theorem dX12_isIn_17 : decode cX12_isIn 17 = .ok (.iconst 0, 1) := by decide +kernel
theorem dX12_isIn_18 : decode cX12_isIn 18 = .ok (.ireturn, 1) := by decide +kernel
theorem dX12_end_0 : decode cX12_end 0 = .ok (.iload_n 1, 1) := by decide +kernel
theorem dX12_end_1 : decode cX12_end 1 = .ok (.ifCond .lt 11, 3) := by decide +kernel
theorem dX12_end_4 : decode cX12_end 4 = .ok (.iload_n 1, 1) := by decide +kernel
theorem dX12_end_5 : decode cX12_end 5 = .ok (.aload_n 0, 1) := by decide +kernel
theorem dX12_end_6 : decode cX12_end 6 = .ok (.getfield 188, 3) := by decide +kernel
theorem dX12_end_9 : decode cX12_end 9 = .ok (.if_icmp .le 5, 3) := by decide +kernel
theorem dX12_end_12 : decode cX12_end 12 = .ok (.iconst 0, 1) := by decide +kernel
theorem dX12_end_13 : decode cX12_end 13 = .ok (.ireturn, 1) := by decide +kernel
theorem dX12_end_14 : decode cX12_end 14 = .ok (.aload_n 0, 1) := by decide +kernel
theorem dX12_end_15 : decode cX12_end 15 = .ok (.iload_n 1, 1) := by decide +kernel
theorem dX12_end_16 : decode cX12_end 16 = .ok (.putfield 188, 3) := by decide +kernel
theorem dX12_end_19 : decode cX12_end 19 = .ok (.iconst 1, 1) := by decide +kernel
theorem dX12_end_20 : decode cX12_end 20 = .ok (.ireturn, 1) := by decide +kernel
theorem dX12_fault_0 : decode cX12_fault 0 = .ok (.iload_n 1, 1) := by decide +kernel
theorem dX12_fault_1 : decode cX12_fault 1 = .ok (.ifCond .ne 10, 3) := by decide +kernel
theorem dX12_fault_4 : decode cX12_fault 4 = .ok (.aload_n 0, 1) := by decide +kernel
theorem dX12_fault_5 : decode cX12_fault 5 = .ok (.getfield 362, 3) := by decide +kernel
theorem dX12_fault_8 : decode cX12_fault 8 = .ok (.goto 16, 3) := by decide +kernel
theorem dX12_fault_11 : decode cX12_fault 11 = .ok (.iload_n 1, 1) := by decide +kernel
theorem dX12_fault_12 : decode cX12_fault 12 = .ok (.iconst 1, 1) := by decide +kernel
theorem dX12_fault_13 : decode cX12_fault 13 = .ok (.if_icmp .ne 10, 3) := by decide +kernel
theorem dX12_fault_16 : decode cX12_fault 16 = .ok (.aload_n 0, 1) := by decide +kernel
theorem dX12_fault_17 : decode cX12_fault 17 = .ok (.getfield 13, 3) := by decide +kernel
theorem dX12_fault_20 : decode cX12_fault 20 = .ok (.goto 4, 3) := by decide +kernel
theorem dX12_fault_23 : decode cX12_fault 23 = .ok (.iconst (-1), 1) := by decide +kernel
theorem dX12_fault_24 : decode cX12_fault 24 = .ok (.ireturn, 1) := by decide +kernel
theorem dX12_feed_0 : decode cX12_feed 0 = .ok (.aload_n 0, 1) := by decide +kernel
theorem dX12_feed_1 : decode cX12_feed 1 = .ok (.getfield 188, 3) := by decide +kernel
theorem dX12_feed_4 : decode cX12_feed 4 = .ok (.bipush 20, 2) := by decide +kernel
theorem dX12_feed_6 : decode cX12_feed 6 = .ok (.iadd, 1) := by decide +kernel
theorem dX12_feed_7 : decode cX12_feed 7 = .ok (.sipush 700, 3) := by decide +kernel
theorem dX12_feed_10 : decode cX12_feed 10 = .ok (.if_icmp .le 5, 3) := by decide +kernel
theorem dX12_feed_13 : decode cX12_feed 13 = .ok (.iconst (-1), 1) := by decide +kernel
theorem dX12_feed_14 : decode cX12_feed 14 = .ok (.ireturn, 1) := by decide +kernel
theorem dX12_feed_15 : decode cX12_feed 15 = .ok (.iconst 0, 1) := by decide +kernel
theorem dX12_feed_16 : decode cX12_feed 16 = .ok (.istore 6, 2) := by decide +kernel
theorem dX12_feed_18 : decode cX12_feed 18 = .ok (.iload 6, 2) := by decide +kernel
theorem dX12_feed_20 : decode cX12_feed 20 = .ok (.bipush 20, 2) := by decide +kernel
theorem dX12_feed_22 : decode cX12_feed 22 = .ok (.if_icmp .ge 92, 3) := by decide +kernel
theorem dX12_feed_25 : decode cX12_feed 25 = .ok (.iload 6, 2) := by decide +kernel
theorem dX12_feed_27 : decode cX12_feed 27 = .ok (.iconst 4, 1) := by decide +kernel
theorem dX12_feed_28 : decode cX12_feed 28 = .ok (.if_icmp .ge 7, 3) := by decide +kernel
theorem dX12_feed_31 : decode cX12_feed 31 = .ok (.iload_n 1, 1) := by decide +kernel
theorem dX12_feed_32 : decode cX12_feed 32 = .ok (.goto 39, 3) := by decide +kernel
theorem dX12_feed_35 : decode cX12_feed 35 = .ok (.iload 6, 2) := by decide +kernel
theorem dX12_feed_37 : decode cX12_feed 37 = .ok (.bipush 8, 2) := by decide +kernel
theorem dX12_feed_39 : decode cX12_feed 39 = .ok (.if_icmp .ge 7, 3) := by decide +kernel
theorem dX12_feed_42 : decode cX12_feed 42 = .ok (.iload_n 2, 1) := by decide +kernel
theorem dX12_feed_43 : decode cX12_feed 43 = .ok (.goto 28, 3) := by decide +kernel
theorem dX12_feed_46 : decode cX12_feed 46 = .ok (.iload 6, 2) := by decide +kernel
theorem dX12_feed_48 : decode cX12_feed 48 = .ok (.bipush 12, 2) := by decide +kernel
theorem dX12_feed_50 : decode cX12_feed 50 = .ok (.if_icmp .ge 7, 3) := by decide +kernel
theorem dX12_feed_53 : decode cX12_feed 53 = .ok (.iload_n 3, 1) := by decide +kernel
theorem dX12_feed_54 : decode cX12_feed 54 = .ok (.goto 17, 3) := by decide +kernel
theorem dX12_feed_57 : decode cX12_feed 57 = .ok (.iload 6, 2) := by decide +kernel
theorem dX12_feed_59 : decode cX12_feed 59 = .ok (.bipush 16, 2) := by decide +kernel
theorem dX12_feed_61 : decode cX12_feed 61 = .ok (.if_icmp .ge 8, 3) := by decide +kernel
theorem dX12_feed_64 : decode cX12_feed 64 = .ok (.iload 4, 2) := by decide +kernel
theorem dX12_feed_66 : decode cX12_feed 66 = .ok (.goto 5, 3) := by decide +kernel
theorem dX12_feed_69 : decode cX12_feed 69 = .ok (.iload 5, 2) := by decide +kernel
theorem dX12_feed_71 : decode cX12_feed 71 = .ok (.istore 7, 2) := by decide +kernel
theorem dX12_feed_73 : decode cX12_feed 73 = .ok (.aload_n 0, 1) := by decide +kernel
theorem dX12_feed_74 : decode cX12_feed 74 = .ok (.getfield 7, 3) := by decide +kernel
theorem dX12_feed_77 : decode cX12_feed 77 = .ok (.aload_n 0, 1) := by decide +kernel
theorem dX12_feed_78 : decode cX12_feed 78 = .ok (.getfield 188, 3) := by decide +kernel
theorem dX12_feed_81 : decode cX12_feed 81 = .ok (.iload 7, 2) := by decide +kernel
theorem dX12_feed_83 : decode cX12_feed 83 = .ok (.bipush 8, 2) := by decide +kernel
theorem dX12_feed_85 : decode cX12_feed 85 = .ok (.iconst 3, 1) := by decide +kernel
theorem dX12_feed_86 : decode cX12_feed 86 = .ok (.iload 6, 2) := by decide +kernel
theorem dX12_feed_88 : decode cX12_feed 88 = .ok (.iconst 4, 1) := by decide +kernel
theorem dX12_feed_89 : decode cX12_feed 89 = .ok (.irem, 1) := by decide +kernel
theorem dX12_feed_90 : decode cX12_feed 90 = .ok (.isub, 1) := by decide +kernel
theorem dX12_feed_91 : decode cX12_feed 91 = .ok (.imul, 1) := by decide +kernel
theorem dX12_feed_92 : decode cX12_feed 92 = .ok (.ishr, 1) := by decide +kernel
theorem dX12_feed_93 : decode cX12_feed 93 = .ok (.sipush 255, 3) := by decide +kernel
theorem dX12_feed_96 : decode cX12_feed 96 = .ok (.iand, 1) := by decide +kernel
theorem dX12_feed_97 : decode cX12_feed 97 = .ok (.iastore, 1) := by decide +kernel
theorem dX12_feed_98 : decode cX12_feed 98 = .ok (.aload_n 0, 1) := by decide +kernel
theorem dX12_feed_99 : decode cX12_feed 99 = .ok (.dup, 1) := by decide +kernel
theorem dX12_feed_100 : decode cX12_feed 100 = .ok (.getfield 188, 3) := by decide +kernel
theorem dX12_feed_103 : decode cX12_feed 103 = .ok (.iconst 1, 1) := by decide +kernel
theorem dX12_feed_104 : decode cX12_feed 104 = .ok (.iadd, 1) := by decide +kernel
theorem dX12_feed_105 : decode cX12_feed 105 = .ok (.putfield 188, 3) := by decide +kernel
theorem dX12_feed_108 : decode cX12_feed 108 = .ok (.iinc 6 1, 3) := by decide +kernel
theorem dX12_feed_111 : decode cX12_feed 111 = .ok (.goto (-93), 3) := by decide +kernel
theorem dX12_feed_114 : decode cX12_feed 114 = .ok (.aload_n 0, 1) := by decide +kernel
theorem dX12_feed_115 : decode cX12_feed 115 = .ok (.getfield 188, 3) := by decide +kernel
theorem dX12_feed_118 : decode cX12_feed 118 = .ok (.ireturn, 1) := by decide +kernel
theorem dX12_undo_0 : decode cX12_undo 0 = .ok (.aload_n 0, 1) := by decide +kernel
theorem dX12_undo_1 : decode cX12_undo 1 = .ok (.getfield 365, 3) := by decide +kernel
theorem dX12_undo_4 : decode cX12_undo 4 = .ok (.ifCond .ne 5, 3) := by decide +kernel
theorem dX12_undo_7 : decode cX12_undo 7 = .ok (.iconst 0, 1) := by decide +kernel
theorem dX12_undo_8 : decode cX12_undo 8 = .ok (.ireturn, 1) := by decide +kernel
theorem dX12_undo_9 : decode cX12_undo 9 = .ok (.aload_n 0, 1) := by decide +kernel
theorem dX12_undo_10 : decode cX12_undo 10 = .ok (.dup, 1) := by decide +kernel
theorem dX12_undo_11 : decode cX12_undo 11 = .ok (.getfield 365, 3) := by decide +kernel
theorem dX12_undo_14 : decode cX12_undo 14 = .ok (.iconst 1, 1) := by decide +kernel
theorem dX12_undo_15 : decode cX12_undo 15 = .ok (.isub, 1) := by decide +kernel
theorem dX12_undo_16 : decode cX12_undo 16 = .ok (.putfield 365, 3) := by decide +kernel
theorem dX12_undo_19 : decode cX12_undo 19 = .ok (.aload_n 0, 1) := by decide +kernel
theorem dX12_undo_20 : decode cX12_undo 20 = .ok (.getfield 97, 3) := by decide +kernel
theorem dX12_undo_23 : decode cX12_undo 23 = .ok (.aload_n 0, 1) := by decide +kernel
theorem dX12_undo_24 : decode cX12_undo 24 = .ok (.getfield 103, 3) := by decide +kernel
theorem dX12_undo_27 : decode cX12_undo 27 = .ok (.aload_n 0, 1) := by decide +kernel
theorem dX12_undo_28 : decode cX12_undo 28 = .ok (.getfield 365, 3) := by decide +kernel
theorem dX12_undo_31 : decode cX12_undo 31 = .ok (.iaload, 1) := by decide +kernel
theorem dX12_undo_32 : decode cX12_undo 32 = .ok (.aload_n 0, 1) := by decide +kernel
theorem dX12_undo_33 : decode cX12_undo 33 = .ok (.getfield 106, 3) := by decide +kernel
theorem dX12_undo_36 : decode cX12_undo 36 = .ok (.aload_n 0, 1) := by decide +kernel
theorem dX12_undo_37 : decode cX12_undo 37 = .ok (.getfield 365, 3) := by decide +kernel
theorem dX12_undo_40 : decode cX12_undo 40 = .ok (.laload, 1) := by decide +kernel
theorem dX12_undo_41 : decode cX12_undo 41 = .ok (.lastore, 1) := by decide +kernel
theorem dX12_undo_42 : decode cX12_undo 42 = .ok (.aload_n 0, 1) := by decide +kernel
theorem dX12_undo_43 : decode cX12_undo 43 = .ok (.getfield 100, 3) := by decide +kernel
theorem dX12_undo_46 : decode cX12_undo 46 = .ok (.aload_n 0, 1) := by decide +kernel
theorem dX12_undo_47 : decode cX12_undo 47 = .ok (.getfield 103, 3) := by decide +kernel
theorem dX12_undo_50 : decode cX12_undo 50 = .ok (.aload_n 0, 1) := by decide +kernel
theorem dX12_undo_51 : decode cX12_undo 51 = .ok (.getfield 365, 3) := by decide +kernel
theorem dX12_undo_54 : decode cX12_undo 54 = .ok (.iaload, 1) := by decide +kernel
theorem dX12_undo_55 : decode cX12_undo 55 = .ok (.aload_n 0, 1) := by decide +kernel
theorem dX12_undo_56 : decode cX12_undo 56 = .ok (.getfield 109, 3) := by decide +kernel
theorem dX12_undo_59 : decode cX12_undo 59 = .ok (.aload_n 0, 1) := by decide +kernel
theorem dX12_undo_60 : decode cX12_undo 60 = .ok (.getfield 365, 3) := by decide +kernel
theorem dX12_undo_63 : decode cX12_undo 63 = .ok (.laload, 1) := by decide +kernel
theorem dX12_undo_64 : decode cX12_undo 64 = .ok (.lastore, 1) := by decide +kernel
theorem dX12_undo_65 : decode cX12_undo 65 = .ok (.iconst 1, 1) := by decide +kernel
theorem dX12_undo_66 : decode cX12_undo 66 = .ok (.ireturn, 1) := by decide +kernel
theorem dX12_redo_0 : decode cX12_redo 0 = .ok (.aload_n 0, 1) := by decide +kernel
theorem dX12_redo_1 : decode cX12_redo 1 = .ok (.getfield 365, 3) := by decide +kernel
theorem dX12_redo_4 : decode cX12_redo 4 = .ok (.aload_n 0, 1) := by decide +kernel
theorem dX12_redo_5 : decode cX12_redo 5 = .ok (.getfield 368, 3) := by decide +kernel
theorem dX12_redo_8 : decode cX12_redo 8 = .ok (.if_icmp .ne 5, 3) := by decide +kernel
theorem dX12_redo_11 : decode cX12_redo 11 = .ok (.iconst 0, 1) := by decide +kernel
theorem dX12_redo_12 : decode cX12_redo 12 = .ok (.ireturn, 1) := by decide +kernel
theorem dX12_redo_13 : decode cX12_redo 13 = .ok (.aload_n 0, 1) := by decide +kernel
theorem dX12_redo_14 : decode cX12_redo 14 = .ok (.getfield 97, 3) := by decide +kernel
theorem dX12_redo_17 : decode cX12_redo 17 = .ok (.aload_n 0, 1) := by decide +kernel
theorem dX12_redo_18 : decode cX12_redo 18 = .ok (.getfield 103, 3) := by decide +kernel
theorem dX12_redo_21 : decode cX12_redo 21 = .ok (.aload_n 0, 1) := by decide +kernel
theorem dX12_redo_22 : decode cX12_redo 22 = .ok (.getfield 365, 3) := by decide +kernel
theorem dX12_redo_25 : decode cX12_redo 25 = .ok (.iaload, 1) := by decide +kernel
theorem dX12_redo_26 : decode cX12_redo 26 = .ok (.aload_n 0, 1) := by decide +kernel
theorem dX12_redo_27 : decode cX12_redo 27 = .ok (.getfield 112, 3) := by decide +kernel
theorem dX12_redo_30 : decode cX12_redo 30 = .ok (.aload_n 0, 1) := by decide +kernel
theorem dX12_redo_31 : decode cX12_redo 31 = .ok (.getfield 365, 3) := by decide +kernel
theorem dX12_redo_34 : decode cX12_redo 34 = .ok (.laload, 1) := by decide +kernel
theorem dX12_redo_35 : decode cX12_redo 35 = .ok (.lastore, 1) := by decide +kernel
theorem dX12_redo_36 : decode cX12_redo 36 = .ok (.aload_n 0, 1) := by decide +kernel
theorem dX12_redo_37 : decode cX12_redo 37 = .ok (.getfield 100, 3) := by decide +kernel
theorem dX12_redo_40 : decode cX12_redo 40 = .ok (.aload_n 0, 1) := by decide +kernel
theorem dX12_redo_41 : decode cX12_redo 41 = .ok (.getfield 103, 3) := by decide +kernel
theorem dX12_redo_44 : decode cX12_redo 44 = .ok (.aload_n 0, 1) := by decide +kernel
theorem dX12_redo_45 : decode cX12_redo 45 = .ok (.getfield 365, 3) := by decide +kernel
theorem dX12_redo_48 : decode cX12_redo 48 = .ok (.iaload, 1) := by decide +kernel
theorem dX12_redo_49 : decode cX12_redo 49 = .ok (.aload_n 0, 1) := by decide +kernel
theorem dX12_redo_50 : decode cX12_redo 50 = .ok (.getfield 115, 3) := by decide +kernel
theorem dX12_redo_53 : decode cX12_redo 53 = .ok (.aload_n 0, 1) := by decide +kernel
theorem dX12_redo_54 : decode cX12_redo 54 = .ok (.getfield 365, 3) := by decide +kernel
theorem dX12_redo_57 : decode cX12_redo 57 = .ok (.laload, 1) := by decide +kernel
theorem dX12_redo_58 : decode cX12_redo 58 = .ok (.lastore, 1) := by decide +kernel
theorem dX12_redo_59 : decode cX12_redo 59 = .ok (.aload_n 0, 1) := by decide +kernel
theorem dX12_redo_60 : decode cX12_redo 60 = .ok (.dup, 1) := by decide +kernel
theorem dX12_redo_61 : decode cX12_redo 61 = .ok (.getfield 365, 3) := by decide +kernel
theorem dX12_redo_64 : decode cX12_redo 64 = .ok (.iconst 1, 1) := by decide +kernel
theorem dX12_redo_65 : decode cX12_redo 65 = .ok (.iadd, 1) := by decide +kernel
theorem dX12_redo_66 : decode cX12_redo 66 = .ok (.putfield 365, 3) := by decide +kernel
theorem dX12_redo_69 : decode cX12_redo 69 = .ok (.iconst 1, 1) := by decide +kernel
theorem dX12_redo_70 : decode cX12_redo 70 = .ok (.ireturn, 1) := by decide +kernel
theorem dX12_has_0 : decode cX12_has 0 = .ok (.iload_n 1, 1) := by decide +kernel
theorem dX12_has_1 : decode cX12_has 1 = .ok (.i2l, 1) := by decide +kernel
theorem dX12_has_2 : decode cX12_has 2 = .ok (.lconst 0, 1) := by decide +kernel
theorem dX12_has_3 : decode cX12_has 3 = .ok (.ldc2_w 378, 3) := by decide +kernel
theorem dX12_has_6 : decode cX12_has 6 = .ok (.invokestatic 231, 3) := by decide +kernel
theorem dX12_has_9 : decode cX12_has 9 = .ok (.ifCond .eq 14, 3) := by decide +kernel
theorem dX12_has_12 : decode cX12_has 12 = .ok (.aload_n 0, 1) := by decide +kernel
theorem dX12_has_13 : decode cX12_has 13 = .ok (.getfield 60, 3) := by decide +kernel
theorem dX12_has_16 : decode cX12_has 16 = .ok (.iconst 5, 1) := by decide +kernel
theorem dX12_has_17 : decode cX12_has 17 = .ok (.iload_n 1, 1) := by decide +kernel
theorem dX12_has_18 : decode cX12_has 18 = .ok (.iadd, 1) := by decide +kernel
theorem dX12_has_19 : decode cX12_has 19 = .ok (.iaload, 1) := by decide +kernel
theorem dX12_has_20 : decode cX12_has 20 = .ok (.goto 4, 3) := by decide +kernel
theorem dX12_has_23 : decode cX12_has 23 = .ok (.iconst (-1), 1) := by decide +kernel
theorem dX12_has_24 : decode cX12_has 24 = .ok (.ireturn, 1) := by decide +kernel
theorem dX12_put_0 : decode cX12_put 0 = .ok (.iload_n 1, 1) := by decide +kernel
theorem dX12_put_1 : decode cX12_put 1 = .ok (.i2l, 1) := by decide +kernel
theorem dX12_put_2 : decode cX12_put 2 = .ok (.lconst 0, 1) := by decide +kernel
theorem dX12_put_3 : decode cX12_put 3 = .ok (.aload_n 0, 1) := by decide +kernel
theorem dX12_put_4 : decode cX12_put 4 = .ok (.getfield 60, 3) := by decide +kernel
theorem dX12_put_7 : decode cX12_put 7 = .ok (.iconst 5, 1) := by decide +kernel
theorem dX12_put_8 : decode cX12_put 8 = .ok (.iaload, 1) := by decide +kernel
theorem dX12_put_9 : decode cX12_put 9 = .ok (.iconst 1, 1) := by decide +kernel
theorem dX12_put_10 : decode cX12_put 10 = .ok (.isub, 1) := by decide +kernel
theorem dX12_put_11 : decode cX12_put 11 = .ok (.i2l, 1) := by decide +kernel
theorem dX12_put_12 : decode cX12_put 12 = .ok (.invokestatic 231, 3) := by decide +kernel
theorem dX12_put_15 : decode cX12_put 15 = .ok (.ifCond .eq 29, 3) := by decide +kernel
theorem dX12_put_18 : decode cX12_put 18 = .ok (.iload_n 2, 1) := by decide +kernel
theorem dX12_put_19 : decode cX12_put 19 = .ok (.i2l, 1) := by decide +kernel
theorem dX12_put_20 : decode cX12_put 20 = .ok (.ldc2_w 404, 3) := by decide +kernel
theorem dX12_put_23 : decode cX12_put 23 = .ok (.ldc2_w 398, 3) := by decide +kernel
theorem dX12_put_26 : decode cX12_put 26 = .ok (.invokestatic 231, 3) := by decide +kernel
theorem dX12_put_29 : decode cX12_put 29 = .ok (.ifCond .eq 15, 3) := by decide +kernel
theorem dX12_put_32 : decode cX12_put 32 = .ok (.iload_n 3, 1) := by decide +kernel
theorem dX12_put_33 : decode cX12_put 33 = .ok (.i2l, 1) := by decide +kernel
theorem dX12_put_34 : decode cX12_put 34 = .ok (.lconst 1, 1) := by decide +kernel
theorem dX12_put_35 : decode cX12_put 35 = .ok (.ldc2_w 398, 3) := by decide +kernel
theorem dX12_put_38 : decode cX12_put 38 = .ok (.invokestatic 231, 3) := by decide +kernel
theorem dX12_put_41 : decode cX12_put 41 = .ok (.ifCond .ne 5, 3) := by decide +kernel
theorem dX12_put_44 : decode cX12_put 44 = .ok (.iconst 0, 1) := by decide +kernel
theorem dX12_put_45 : decode cX12_put 45 = .ok (.ireturn, 1) := by decide +kernel
theorem dX12_put_46 : decode cX12_put 46 = .ok (.aload_n 0, 1) := by decide +kernel
theorem dX12_put_47 : decode cX12_put 47 = .ok (.getfield 365, 3) := by decide +kernel
theorem dX12_put_50 : decode cX12_put 50 = .ok (.bipush 40, 2) := by decide +kernel
theorem dX12_put_52 : decode cX12_put 52 = .ok (.if_icmp .ne 109, 3) := by decide +kernel
theorem dX12_put_55 : decode cX12_put 55 = .ok (.iconst 1, 1) := by decide +kernel
theorem dX12_put_56 : decode cX12_put 56 = .ok (.istore 4, 2) := by decide +kernel
theorem dX12_put_58 : decode cX12_put 58 = .ok (.iload 4, 2) := by decide +kernel
theorem dX12_put_60 : decode cX12_put 60 = .ok (.bipush 40, 2) := by decide +kernel
theorem dX12_put_62 : decode cX12_put 62 = .ok (.if_icmp .ge 89, 3) := by decide +kernel
theorem dX12_put_65 : decode cX12_put 65 = .ok (.aload_n 0, 1) := by decide +kernel
theorem dX12_put_66 : decode cX12_put 66 = .ok (.getfield 103, 3) := by decide +kernel
theorem dX12_put_69 : decode cX12_put 69 = .ok (.iload 4, 2) := by decide +kernel
theorem dX12_put_71 : decode cX12_put 71 = .ok (.iconst 1, 1) := by decide +kernel
theorem dX12_put_72 : decode cX12_put 72 = .ok (.isub, 1) := by decide +kernel
theorem dX12_put_73 : decode cX12_put 73 = .ok (.aload_n 0, 1) := by decide +kernel
theorem dX12_put_74 : decode cX12_put 74 = .ok (.getfield 103, 3) := by decide +kernel
theorem dX12_put_77 : decode cX12_put 77 = .ok (.iload 4, 2) := by decide +kernel
theorem dX12_put_79 : decode cX12_put 79 = .ok (.iaload, 1) := by decide +kernel
theorem dX12_put_80 : decode cX12_put 80 = .ok (.iastore, 1) := by decide +kernel
theorem dX12_put_81 : decode cX12_put 81 = .ok (.aload_n 0, 1) := by decide +kernel
theorem dX12_put_82 : decode cX12_put 82 = .ok (.getfield 106, 3) := by decide +kernel
theorem dX12_put_85 : decode cX12_put 85 = .ok (.iload 4, 2) := by decide +kernel
theorem dX12_put_87 : decode cX12_put 87 = .ok (.iconst 1, 1) := by decide +kernel
theorem dX12_put_88 : decode cX12_put 88 = .ok (.isub, 1) := by decide +kernel
theorem dX12_put_89 : decode cX12_put 89 = .ok (.aload_n 0, 1) := by decide +kernel
theorem dX12_put_90 : decode cX12_put 90 = .ok (.getfield 106, 3) := by decide +kernel
theorem dX12_put_93 : decode cX12_put 93 = .ok (.iload 4, 2) := by decide +kernel
theorem dX12_put_95 : decode cX12_put 95 = .ok (.laload, 1) := by decide +kernel
theorem dX12_put_96 : decode cX12_put 96 = .ok (.lastore, 1) := by decide +kernel
theorem dX12_put_97 : decode cX12_put 97 = .ok (.aload_n 0, 1) := by decide +kernel
theorem dX12_put_98 : decode cX12_put 98 = .ok (.getfield 109, 3) := by decide +kernel
theorem dX12_put_101 : decode cX12_put 101 = .ok (.iload 4, 2) := by decide +kernel
theorem dX12_put_103 : decode cX12_put 103 = .ok (.iconst 1, 1) := by decide +kernel
theorem dX12_put_104 : decode cX12_put 104 = .ok (.isub, 1) := by decide +kernel
theorem dX12_put_105 : decode cX12_put 105 = .ok (.aload_n 0, 1) := by decide +kernel
theorem dX12_put_106 : decode cX12_put 106 = .ok (.getfield 109, 3) := by decide +kernel
theorem dX12_put_109 : decode cX12_put 109 = .ok (.iload 4, 2) := by decide +kernel
theorem dX12_put_111 : decode cX12_put 111 = .ok (.laload, 1) := by decide +kernel
theorem dX12_put_112 : decode cX12_put 112 = .ok (.lastore, 1) := by decide +kernel
theorem dX12_put_113 : decode cX12_put 113 = .ok (.aload_n 0, 1) := by decide +kernel
theorem dX12_put_114 : decode cX12_put 114 = .ok (.getfield 112, 3) := by decide +kernel
theorem dX12_put_117 : decode cX12_put 117 = .ok (.iload 4, 2) := by decide +kernel
theorem dX12_put_119 : decode cX12_put 119 = .ok (.iconst 1, 1) := by decide +kernel
theorem dX12_put_120 : decode cX12_put 120 = .ok (.isub, 1) := by decide +kernel
theorem dX12_put_121 : decode cX12_put 121 = .ok (.aload_n 0, 1) := by decide +kernel
theorem dX12_put_122 : decode cX12_put 122 = .ok (.getfield 112, 3) := by decide +kernel
theorem dX12_put_125 : decode cX12_put 125 = .ok (.iload 4, 2) := by decide +kernel
theorem dX12_put_127 : decode cX12_put 127 = .ok (.laload, 1) := by decide +kernel
theorem dX12_put_128 : decode cX12_put 128 = .ok (.lastore, 1) := by decide +kernel
theorem dX12_put_129 : decode cX12_put 129 = .ok (.aload_n 0, 1) := by decide +kernel
theorem dX12_put_130 : decode cX12_put 130 = .ok (.getfield 115, 3) := by decide +kernel
theorem dX12_put_133 : decode cX12_put 133 = .ok (.iload 4, 2) := by decide +kernel
theorem dX12_put_135 : decode cX12_put 135 = .ok (.iconst 1, 1) := by decide +kernel
theorem dX12_put_136 : decode cX12_put 136 = .ok (.isub, 1) := by decide +kernel
theorem dX12_put_137 : decode cX12_put 137 = .ok (.aload_n 0, 1) := by decide +kernel
theorem dX12_put_138 : decode cX12_put 138 = .ok (.getfield 115, 3) := by decide +kernel
theorem dX12_put_141 : decode cX12_put 141 = .ok (.iload 4, 2) := by decide +kernel
theorem dX12_put_143 : decode cX12_put 143 = .ok (.laload, 1) := by decide +kernel
theorem dX12_put_144 : decode cX12_put 144 = .ok (.lastore, 1) := by decide +kernel
theorem dX12_put_145 : decode cX12_put 145 = .ok (.iinc 4 1, 3) := by decide +kernel
theorem dX12_put_148 : decode cX12_put 148 = .ok (.goto (-90), 3) := by decide +kernel
theorem dX12_put_151 : decode cX12_put 151 = .ok (.aload_n 0, 1) := by decide +kernel
theorem dX12_put_152 : decode cX12_put 152 = .ok (.dup, 1) := by decide +kernel
theorem dX12_put_153 : decode cX12_put 153 = .ok (.getfield 365, 3) := by decide +kernel
theorem dX12_put_156 : decode cX12_put 156 = .ok (.iconst 1, 1) := by decide +kernel
theorem dX12_put_157 : decode cX12_put 157 = .ok (.isub, 1) := by decide +kernel
theorem dX12_put_158 : decode cX12_put 158 = .ok (.putfield 365, 3) := by decide +kernel
theorem dX12_put_161 : decode cX12_put 161 = .ok (.iload_n 2, 1) := by decide +kernel
theorem dX12_put_162 : decode cX12_put 162 = .ok (.i2l, 1) := by decide +kernel
theorem dX12_put_163 : decode cX12_put 163 = .ok (.iload_n 3, 1) := by decide +kernel
theorem dX12_put_164 : decode cX12_put 164 = .ok (.i2l, 1) := by decide +kernel
theorem dX12_put_165 : decode cX12_put 165 = .ok (.invokestatic 394, 3) := by decide +kernel
theorem dX12_put_168 : decode cX12_put 168 = .ok (.lstore 4, 2) := by decide +kernel
theorem dX12_put_170 : decode cX12_put 170 = .ok (.aload_n 0, 1) := by decide +kernel
theorem dX12_put_171 : decode cX12_put 171 = .ok (.getfield 103, 3) := by decide +kernel
theorem dX12_put_174 : decode cX12_put 174 = .ok (.aload_n 0, 1) := by decide +kernel
theorem dX12_put_175 : decode cX12_put 175 = .ok (.getfield 365, 3) := by decide +kernel
theorem dX12_put_178 : decode cX12_put 178 = .ok (.iload_n 1, 1) := by decide +kernel
theorem dX12_put_179 : decode cX12_put 179 = .ok (.iastore, 1) := by decide +kernel
theorem dX12_put_180 : decode cX12_put 180 = .ok (.aload_n 0, 1) := by decide +kernel
theorem dX12_put_181 : decode cX12_put 181 = .ok (.getfield 106, 3) := by decide +kernel
theorem dX12_put_184 : decode cX12_put 184 = .ok (.aload_n 0, 1) := by decide +kernel
theorem dX12_put_185 : decode cX12_put 185 = .ok (.getfield 365, 3) := by decide +kernel
theorem dX12_put_188 : decode cX12_put 188 = .ok (.aload_n 0, 1) := by decide +kernel
theorem dX12_put_189 : decode cX12_put 189 = .ok (.getfield 97, 3) := by decide +kernel
theorem dX12_put_192 : decode cX12_put 192 = .ok (.iload_n 1, 1) := by decide +kernel
theorem dX12_put_193 : decode cX12_put 193 = .ok (.laload, 1) := by decide +kernel
theorem dX12_put_194 : decode cX12_put 194 = .ok (.lastore, 1) := by decide +kernel
theorem dX12_put_195 : decode cX12_put 195 = .ok (.aload_n 0, 1) := by decide +kernel
theorem dX12_put_196 : decode cX12_put 196 = .ok (.getfield 109, 3) := by decide +kernel
theorem dX12_put_199 : decode cX12_put 199 = .ok (.aload_n 0, 1) := by decide +kernel
theorem dX12_put_200 : decode cX12_put 200 = .ok (.getfield 365, 3) := by decide +kernel
theorem dX12_put_203 : decode cX12_put 203 = .ok (.aload_n 0, 1) := by decide +kernel
theorem dX12_put_204 : decode cX12_put 204 = .ok (.getfield 100, 3) := by decide +kernel
theorem dX12_put_207 : decode cX12_put 207 = .ok (.iload_n 1, 1) := by decide +kernel
theorem dX12_put_208 : decode cX12_put 208 = .ok (.laload, 1) := by decide +kernel
theorem dX12_put_209 : decode cX12_put 209 = .ok (.lastore, 1) := by decide +kernel
theorem dX12_put_210 : decode cX12_put 210 = .ok (.aload_n 0, 1) := by decide +kernel
theorem dX12_put_211 : decode cX12_put 211 = .ok (.getfield 112, 3) := by decide +kernel
theorem dX12_put_214 : decode cX12_put 214 = .ok (.aload_n 0, 1) := by decide +kernel
theorem dX12_put_215 : decode cX12_put 215 = .ok (.getfield 365, 3) := by decide +kernel
theorem dX12_put_218 : decode cX12_put 218 = .ok (.iload_n 2, 1) := by decide +kernel
theorem dX12_put_219 : decode cX12_put 219 = .ok (.i2l, 1) := by decide +kernel
theorem dX12_put_220 : decode cX12_put 220 = .ok (.lload 4, 2) := by decide +kernel
theorem dX12_put_222 : decode cX12_put 222 = .ok (.ldiv, 1) := by decide +kernel
theorem dX12_put_223 : decode cX12_put 223 = .ok (.lastore, 1) := by decide +kernel
theorem dX12_put_224 : decode cX12_put 224 = .ok (.aload_n 0, 1) := by decide +kernel
theorem dX12_put_225 : decode cX12_put 225 = .ok (.getfield 115, 3) := by decide +kernel
theorem dX12_put_228 : decode cX12_put 228 = .ok (.aload_n 0, 1) := by decide +kernel
theorem dX12_put_229 : decode cX12_put 229 = .ok (.getfield 365, 3) := by decide +kernel
theorem dX12_put_232 : decode cX12_put 232 = .ok (.iload_n 3, 1) := by decide +kernel
theorem dX12_put_233 : decode cX12_put 233 = .ok (.i2l, 1) := by decide +kernel
theorem dX12_put_234 : decode cX12_put 234 = .ok (.lload 4, 2) := by decide +kernel
theorem dX12_put_236 : decode cX12_put 236 = .ok (.ldiv, 1) := by decide +kernel
theorem dX12_put_237 : decode cX12_put 237 = .ok (.lastore, 1) := by decide +kernel
theorem dX12_put_238 : decode cX12_put 238 = .ok (.aload_n 0, 1) := by decide +kernel
theorem dX12_put_239 : decode cX12_put 239 = .ok (.getfield 97, 3) := by decide +kernel
theorem dX12_put_242 : decode cX12_put 242 = .ok (.iload_n 1, 1) := by decide +kernel
theorem dX12_put_243 : decode cX12_put 243 = .ok (.iload_n 2, 1) := by decide +kernel
theorem dX12_put_244 : decode cX12_put 244 = .ok (.i2l, 1) := by decide +kernel
theorem dX12_put_245 : decode cX12_put 245 = .ok (.lload 4, 2) := by decide +kernel
theorem dX12_put_247 : decode cX12_put 247 = .ok (.ldiv, 1) := by decide +kernel
theorem dX12_put_248 : decode cX12_put 248 = .ok (.lastore, 1) := by decide +kernel
theorem dX12_put_249 : decode cX12_put 249 = .ok (.aload_n 0, 1) := by decide +kernel
theorem dX12_put_250 : decode cX12_put 250 = .ok (.getfield 100, 3) := by decide +kernel
theorem dX12_put_253 : decode cX12_put 253 = .ok (.iload_n 1, 1) := by decide +kernel
theorem dX12_put_254 : decode cX12_put 254 = .ok (.iload_n 3, 1) := by decide +kernel
theorem dX12_put_255 : decode cX12_put 255 = .ok (.i2l, 1) := by decide +kernel
theorem dX12_put_256 : decode cX12_put 256 = .ok (.lload 4, 2) := by decide +kernel
theorem dX12_put_258 : decode cX12_put 258 = .ok (.ldiv, 1) := by decide +kernel
theorem dX12_put_259 : decode cX12_put 259 = .ok (.lastore, 1) := by decide +kernel
theorem dX12_put_260 : decode cX12_put 260 = .ok (.aload_n 0, 1) := by decide +kernel
theorem dX12_put_261 : decode cX12_put 261 = .ok (.dup, 1) := by decide +kernel
theorem dX12_put_262 : decode cX12_put 262 = .ok (.getfield 365, 3) := by decide +kernel
theorem dX12_put_265 : decode cX12_put 265 = .ok (.iconst 1, 1) := by decide +kernel
theorem dX12_put_266 : decode cX12_put 266 = .ok (.iadd, 1) := by decide +kernel
theorem dX12_put_267 : decode cX12_put 267 = .ok (.putfield 365, 3) := by decide +kernel
theorem dX12_put_270 : decode cX12_put 270 = .ok (.aload_n 0, 1) := by decide +kernel
theorem dX12_put_271 : decode cX12_put 271 = .ok (.aload_n 0, 1) := by decide +kernel
theorem dX12_put_272 : decode cX12_put 272 = .ok (.getfield 365, 3) := by decide +kernel
theorem dX12_put_275 : decode cX12_put 275 = .ok (.putfield 368, 3) := by decide +kernel
theorem dX12_put_278 : decode cX12_put 278 = .ok (.iconst 1, 1) := by decide +kernel
theorem dX12_put_279 : decode cX12_put 279 = .ok (.ireturn, 1) := by decide +kernel
theorem dX12_input_0 : decode cX12_input 0 = .ok (.iload_n 1, 1) := by decide +kernel
theorem dX12_input_1 : decode cX12_input 1 = .ok (.i2l, 1) := by decide +kernel
theorem dX12_input_2 : decode cX12_input 2 = .ok (.lconst 0, 1) := by decide +kernel
theorem dX12_input_3 : decode cX12_input 3 = .ok (.aload_n 0, 1) := by decide +kernel
theorem dX12_input_4 : decode cX12_input 4 = .ok (.getfield 60, 3) := by decide +kernel
theorem dX12_input_7 : decode cX12_input 7 = .ok (.iconst 5, 1) := by decide +kernel
theorem dX12_input_8 : decode cX12_input 8 = .ok (.iaload, 1) := by decide +kernel
theorem dX12_input_9 : decode cX12_input 9 = .ok (.iconst 1, 1) := by decide +kernel
theorem dX12_input_10 : decode cX12_input 10 = .ok (.isub, 1) := by decide +kernel
theorem dX12_input_11 : decode cX12_input 11 = .ok (.i2l, 1) := by decide +kernel
theorem dX12_input_12 : decode cX12_input 12 = .ok (.invokestatic 231, 3) := by decide +kernel
theorem dX12_input_15 : decode cX12_input 15 = .ok (.ifCond .ne 9, 3) := by decide +kernel
theorem dX12_input_18 : decode cX12_input 18 = .ok (.ldc2_w 406, 3) := by decide +kernel
theorem dX12_input_21 : decode cX12_input 21 = .ok (.goto 22, 3) := by decide +kernel
theorem dX12_input_24 : decode cX12_input 24 = .ok (.iload_n 2, 1) := by decide +kernel
theorem dX12_input_25 : decode cX12_input 25 = .ok (.ifCond .eq 12, 3) := by decide +kernel
theorem dX12_input_28 : decode cX12_input 28 = .ok (.aload_n 0, 1) := by decide +kernel
theorem dX12_input_29 : decode cX12_input 29 = .ok (.getfield 97, 3) := by decide +kernel
theorem dX12_input_32 : decode cX12_input 32 = .ok (.iload_n 1, 1) := by decide +kernel
theorem dX12_input_33 : decode cX12_input 33 = .ok (.laload, 1) := by decide +kernel
theorem dX12_input_34 : decode cX12_input 34 = .ok (.goto 9, 3) := by decide +kernel
theorem dX12_input_37 : decode cX12_input 37 = .ok (.aload_n 0, 1) := by decide +kernel
theorem dX12_input_38 : decode cX12_input 38 = .ok (.getfield 100, 3) := by decide +kernel
theorem dX12_input_41 : decode cX12_input 41 = .ok (.iload_n 1, 1) := by decide +kernel
theorem dX12_input_42 : decode cX12_input 42 = .ok (.laload, 1) := by decide +kernel
theorem dX12_input_43 : decode cX12_input 43 = .ok (.lreturn, 1) := by decide +kernel
theorem dX12_ran_0 : decode cX12_ran 0 = .ok (.aload_n 0, 1) := by decide +kernel
theorem dX12_ran_1 : decode cX12_ran 1 = .ok (.getfield 371, 3) := by decide +kernel
theorem dX12_ran_4 : decode cX12_ran 4 = .ok (.ifCond .ne 5, 3) := by decide +kernel
theorem dX12_ran_7 : decode cX12_ran 7 = .ok (.iconst (-1), 1) := by decide +kernel
theorem dX12_ran_8 : decode cX12_ran 8 = .ok (.ireturn, 1) := by decide +kernel
theorem dX12_ran_9 : decode cX12_ran 9 = .ok (.iload_n 1, 1) := by decide +kernel
theorem dX12_ran_10 : decode cX12_ran 10 = .ok (.ifCond .ne 12, 3) := by decide +kernel
theorem dX12_ran_13 : decode cX12_ran 13 = .ok (.aload_n 0, 1) := by decide +kernel
theorem dX12_ran_14 : decode cX12_ran 14 = .ok (.getfield 142, 3) := by decide +kernel
theorem dX12_ran_17 : decode cX12_ran 17 = .ok (.iconst 0, 1) := by decide +kernel
theorem dX12_ran_18 : decode cX12_ran 18 = .ok (.iaload, 1) := by decide +kernel
theorem dX12_ran_19 : decode cX12_ran 19 = .ok (.goto 46, 3) := by decide +kernel
theorem dX12_ran_22 : decode cX12_ran 22 = .ok (.iload_n 1, 1) := by decide +kernel
theorem dX12_ran_23 : decode cX12_ran 23 = .ok (.iconst 1, 1) := by decide +kernel
theorem dX12_ran_24 : decode cX12_ran 24 = .ok (.if_icmp .ne 12, 3) := by decide +kernel
theorem dX12_ran_27 : decode cX12_ran 27 = .ok (.aload_n 0, 1) := by decide +kernel
theorem dX12_ran_28 : decode cX12_ran 28 = .ok (.getfield 139, 3) := by decide +kernel
theorem dX12_ran_31 : decode cX12_ran 31 = .ok (.iconst 0, 1) := by decide +kernel
theorem dX12_ran_32 : decode cX12_ran 32 = .ok (.iaload, 1) := by decide +kernel
theorem dX12_ran_33 : decode cX12_ran 33 = .ok (.goto 32, 3) := by decide +kernel
theorem dX12_ran_36 : decode cX12_ran 36 = .ok (.iload_n 1, 1) := by decide +kernel
theorem dX12_ran_37 : decode cX12_ran 37 = .ok (.iconst 2, 1) := by decide +kernel
theorem dX12_ran_38 : decode cX12_ran 38 = .ok (.if_icmp .ne 12, 3) := by decide +kernel
theorem dX12_ran_41 : decode cX12_ran 41 = .ok (.aload_n 0, 1) := by decide +kernel
theorem dX12_ran_42 : decode cX12_ran 42 = .ok (.getfield 145, 3) := by decide +kernel
theorem dX12_ran_45 : decode cX12_ran 45 = .ok (.iconst 0, 1) := by decide +kernel
theorem dX12_ran_46 : decode cX12_ran 46 = .ok (.iaload, 1) := by decide +kernel
theorem dX12_ran_47 : decode cX12_ran 47 = .ok (.goto 18, 3) := by decide +kernel
theorem dX12_ran_50 : decode cX12_ran 50 = .ok (.iload_n 1, 1) := by decide +kernel
theorem dX12_ran_51 : decode cX12_ran 51 = .ok (.iconst 3, 1) := by decide +kernel
theorem dX12_ran_52 : decode cX12_ran 52 = .ok (.if_icmp .ne 12, 3) := by decide +kernel
theorem dX12_ran_55 : decode cX12_ran 55 = .ok (.aload_n 0, 1) := by decide +kernel
theorem dX12_ran_56 : decode cX12_ran 56 = .ok (.getfield 151, 3) := by decide +kernel
theorem dX12_ran_59 : decode cX12_ran 59 = .ok (.iconst 0, 1) := by decide +kernel
theorem dX12_ran_60 : decode cX12_ran 60 = .ok (.iaload, 1) := by decide +kernel
theorem dX12_ran_61 : decode cX12_ran 61 = .ok (.goto 4, 3) := by decide +kernel
theorem dX12_ran_64 : decode cX12_ran 64 = .ok (.iconst (-1), 1) := by decide +kernel
theorem dX12_ran_65 : decode cX12_ran 65 = .ok (.ireturn, 1) := by decide +kernel
theorem dX12_isResult_0 : decode cX12_isResult 0 = .ok (.aload_n 0, 1) := by decide +kernel
theorem dX12_isResult_1 : decode cX12_isResult 1 = .ok (.getfield 371, 3) := by decide +kernel
theorem dX12_isResult_4 : decode cX12_isResult 4 = .ok (.ifCond .eq 25, 3) := by decide +kernel
theorem dX12_isResult_7 : decode cX12_isResult 7 = .ok (.iload_n 1, 1) := by decide +kernel
theorem dX12_isResult_8 : decode cX12_isResult 8 = .ok (.i2l, 1) := by decide +kernel
theorem dX12_isResult_9 : decode cX12_isResult 9 = .ok (.lconst 0, 1) := by decide +kernel
theorem dX12_isResult_10 : decode cX12_isResult 10 = .ok (.aload_n 0, 1) := by decide +kernel
theorem dX12_isResult_11 : decode cX12_isResult 11 = .ok (.getfield 145, 3) := by decide +kernel
theorem dX12_isResult_14 : decode cX12_isResult 14 = .ok (.iconst 0, 1) := by decide +kernel
theorem dX12_isResult_15 : decode cX12_isResult 15 = .ok (.iaload, 1) := by decide +kernel
theorem dX12_isResult_16 : decode cX12_isResult 16 = .ok (.iconst 1, 1) := by decide +kernel
theorem dX12_isResult_17 : decode cX12_isResult 17 = .ok (.isub, 1) := by decide +kernel
theorem dX12_isResult_18 : decode cX12_isResult 18 = .ok (.i2l, 1) := by decide +kernel
theorem dX12_isResult_19 : decode cX12_isResult 19 = .ok (.invokestatic 231, 3) := by decide +kernel
theorem dX12_isResult_22 : decode cX12_isResult 22 = .ok (.ifCond .eq 7, 3) := by decide +kernel
theorem dX12_isResult_25 : decode cX12_isResult 25 = .ok (.iconst 1, 1) := by decide +kernel
theorem dX12_isResult_26 : decode cX12_isResult 26 = .ok (.goto 4, 3) := by decide +kernel
theorem dX12_isResult_29 : decode cX12_isResult 29 = .ok (.iconst 0, 1) := by decide +kernel
theorem dX12_isResult_30 : decode cX12_isResult 30 = .ok (.ireturn, 1) := by decide +kernel
theorem dX12_result_0 : decode cX12_result 0 = .ok (.aload_n 0, 1) := by decide +kernel
theorem dX12_result_1 : decode cX12_result 1 = .ok (.iload_n 1, 1) := by decide +kernel
theorem dX12_result_2 : decode cX12_result 2 = .ok (.invokevirtual 454, 3) := by decide +kernel
theorem dX12_result_5 : decode cX12_result 5 = .ok (.ifCond .ne 9, 3) := by decide +kernel
theorem dX12_result_8 : decode cX12_result 8 = .ok (.ldc2_w 406, 3) := by decide +kernel
theorem dX12_result_11 : decode cX12_result 11 = .ok (.goto 32, 3) := by decide +kernel
theorem dX12_result_14 : decode cX12_result 14 = .ok (.iload_n 2, 1) := by decide +kernel
theorem dX12_result_15 : decode cX12_result 15 = .ok (.ifCond .eq 17, 3) := by decide +kernel
theorem dX12_result_18 : decode cX12_result 18 = .ok (.aload_n 0, 1) := by decide +kernel
theorem dX12_result_19 : decode cX12_result 19 = .ok (.getfield 124, 3) := by decide +kernel
theorem dX12_result_22 : decode cX12_result 22 = .ok (.aload_n 0, 1) := by decide +kernel
theorem dX12_result_23 : decode cX12_result 23 = .ok (.getfield 148, 3) := by decide +kernel
theorem dX12_result_26 : decode cX12_result 26 = .ok (.iload_n 1, 1) := by decide +kernel
theorem dX12_result_27 : decode cX12_result 27 = .ok (.iaload, 1) := by decide +kernel
theorem dX12_result_28 : decode cX12_result 28 = .ok (.laload, 1) := by decide +kernel
theorem dX12_result_29 : decode cX12_result 29 = .ok (.goto 14, 3) := by decide +kernel
theorem dX12_result_32 : decode cX12_result 32 = .ok (.aload_n 0, 1) := by decide +kernel
theorem dX12_result_33 : decode cX12_result 33 = .ok (.getfield 127, 3) := by decide +kernel
theorem dX12_result_36 : decode cX12_result 36 = .ok (.aload_n 0, 1) := by decide +kernel
theorem dX12_result_37 : decode cX12_result 37 = .ok (.getfield 148, 3) := by decide +kernel
theorem dX12_result_40 : decode cX12_result 40 = .ok (.iload_n 1, 1) := by decide +kernel
theorem dX12_result_41 : decode cX12_result 41 = .ok (.iaload, 1) := by decide +kernel
theorem dX12_result_42 : decode cX12_result 42 = .ok (.laload, 1) := by decide +kernel
theorem dX12_result_43 : decode cX12_result 43 = .ok (.lreturn, 1) := by decide +kernel
theorem dX12_near_0 : decode cX12_near 0 = .ok (.aload_n 0, 1) := by decide +kernel
theorem dX12_near_1 : decode cX12_near 1 = .ok (.getfield 371, 3) := by decide +kernel
theorem dX12_near_4 : decode cX12_near 4 = .ok (.ifCond .eq 10, 3) := by decide +kernel
theorem dX12_near_7 : decode cX12_near 7 = .ok (.aload_n 0, 1) := by decide +kernel
theorem dX12_near_8 : decode cX12_near 8 = .ok (.getfield 412, 3) := by decide +kernel
theorem dX12_near_11 : decode cX12_near 11 = .ok (.ifCond .ne 9, 3) := by decide +kernel
theorem dX12_near_14 : decode cX12_near 14 = .ok (.ldc2_w 406, 3) := by decide +kernel
theorem dX12_near_17 : decode cX12_near 17 = .ok (.goto 18, 3) := by decide +kernel
theorem dX12_near_20 : decode cX12_near 20 = .ok (.iload_n 1, 1) := by decide +kernel
theorem dX12_near_21 : decode cX12_near 21 = .ok (.ifCond .eq 10, 3) := by decide +kernel
theorem dX12_near_24 : decode cX12_near 24 = .ok (.aload_n 0, 1) := by decide +kernel
theorem dX12_near_25 : decode cX12_near 25 = .ok (.getfield 418, 3) := by decide +kernel
theorem dX12_near_28 : decode cX12_near 28 = .ok (.goto 7, 3) := by decide +kernel
theorem dX12_near_31 : decode cX12_near 31 = .ok (.aload_n 0, 1) := by decide +kernel
theorem dX12_near_32 : decode cX12_near 32 = .ok (.getfield 415, 3) := by decide +kernel
theorem dX12_near_35 : decode cX12_near 35 = .ok (.lreturn, 1) := by decide +kernel
theorem dX12_forward_0 : decode cX12_forward 0 = .ok (.aload_n 0, 1) := by decide +kernel
theorem dX12_forward_1 : decode cX12_forward 1 = .ok (.iload_n 1, 1) := by decide +kernel
theorem dX12_forward_2 : decode cX12_forward 2 = .ok (.invokevirtual 454, 3) := by decide +kernel
theorem dX12_forward_5 : decode cX12_forward 5 = .ok (.ifCond .eq 11, 3) := by decide +kernel
theorem dX12_forward_8 : decode cX12_forward 8 = .ok (.aload_n 0, 1) := by decide +kernel
theorem dX12_forward_9 : decode cX12_forward 9 = .ok (.iload_n 2, 1) := by decide +kernel
theorem dX12_forward_10 : decode cX12_forward 10 = .ok (.invokevirtual 464, 3) := by decide +kernel
theorem dX12_forward_13 : decode cX12_forward 13 = .ok (.ifCond .ne 7, 3) := by decide +kernel
theorem dX12_forward_16 : decode cX12_forward 16 = .ok (.ldc2_w 406, 3) := by decide +kernel
theorem dX12_forward_19 : decode cX12_forward 19 = .ok (.lreturn, 1) := by decide +kernel
theorem dX12_forward_20 : decode cX12_forward 20 = .ok (.aload_n 0, 1) := by decide +kernel
theorem dX12_forward_21 : decode cX12_forward 21 = .ok (.iload_n 1, 1) := by decide +kernel
theorem dX12_forward_22 : decode cX12_forward 22 = .ok (.invokevirtual 467, 3) := by decide +kernel
theorem dX12_forward_25 : decode cX12_forward 25 = .ok (.aload_n 0, 1) := by decide +kernel
theorem dX12_forward_26 : decode cX12_forward 26 = .ok (.iload_n 1, 1) := by decide +kernel
theorem dX12_forward_27 : decode cX12_forward 27 = .ok (.iload_n 2, 1) := by decide +kernel
theorem dX12_forward_28 : decode cX12_forward 28 = .ok (.iconst 0, 1) := by decide +kernel
theorem dX12_forward_29 : decode cX12_forward 29 = .ok (.invokevirtual 470, 3) := by decide +kernel
theorem dX12_forward_32 : decode cX12_forward 32 = .ok (.ifCond .ne 7, 3) := by decide +kernel
theorem dX12_forward_35 : decode cX12_forward 35 = .ok (.ldc2_w 406, 3) := by decide +kernel
theorem dX12_forward_38 : decode cX12_forward 38 = .ok (.lreturn, 1) := by decide +kernel
theorem dX12_forward_39 : decode cX12_forward 39 = .ok (.iload_n 3, 1) := by decide +kernel
theorem dX12_forward_40 : decode cX12_forward 40 = .ok (.ifCond .eq 17, 3) := by decide +kernel
theorem dX12_forward_43 : decode cX12_forward 43 = .ok (.aload_n 0, 1) := by decide +kernel
theorem dX12_forward_44 : decode cX12_forward 44 = .ok (.getfield 167, 3) := by decide +kernel
theorem dX12_forward_47 : decode cX12_forward 47 = .ok (.aload_n 0, 1) := by decide +kernel
theorem dX12_forward_48 : decode cX12_forward 48 = .ok (.getfield 148, 3) := by decide +kernel
theorem dX12_forward_51 : decode cX12_forward 51 = .ok (.iload_n 1, 1) := by decide +kernel
theorem dX12_forward_52 : decode cX12_forward 52 = .ok (.iaload, 1) := by decide +kernel
theorem dX12_forward_53 : decode cX12_forward 53 = .ok (.laload, 1) := by decide +kernel
theorem dX12_forward_54 : decode cX12_forward 54 = .ok (.goto 14, 3) := by decide +kernel
theorem dX12_forward_57 : decode cX12_forward 57 = .ok (.aload_n 0, 1) := by decide +kernel
theorem dX12_forward_58 : decode cX12_forward 58 = .ok (.getfield 170, 3) := by decide +kernel
theorem dX12_forward_61 : decode cX12_forward 61 = .ok (.aload_n 0, 1) := by decide +kernel
theorem dX12_forward_62 : decode cX12_forward 62 = .ok (.getfield 148, 3) := by decide +kernel
theorem dX12_forward_65 : decode cX12_forward 65 = .ok (.iload_n 1, 1) := by decide +kernel
theorem dX12_forward_66 : decode cX12_forward 66 = .ok (.iaload, 1) := by decide +kernel
theorem dX12_forward_67 : decode cX12_forward 67 = .ok (.laload, 1) := by decide +kernel
theorem dX12_forward_68 : decode cX12_forward 68 = .ok (.lreturn, 1) := by decide +kernel
theorem dX12_backward_0 : decode cX12_backward 0 = .ok (.aload_n 0, 1) := by decide +kernel
theorem dX12_backward_1 : decode cX12_backward 1 = .ok (.iload_n 1, 1) := by decide +kernel
theorem dX12_backward_2 : decode cX12_backward 2 = .ok (.invokevirtual 454, 3) := by decide +kernel
theorem dX12_backward_5 : decode cX12_backward 5 = .ok (.ifCond .eq 11, 3) := by decide +kernel
theorem dX12_backward_8 : decode cX12_backward 8 = .ok (.aload_n 0, 1) := by decide +kernel
theorem dX12_backward_9 : decode cX12_backward 9 = .ok (.iload_n 2, 1) := by decide +kernel
theorem dX12_backward_10 : decode cX12_backward 10 = .ok (.invokevirtual 464, 3) := by decide +kernel
theorem dX12_backward_13 : decode cX12_backward 13 = .ok (.ifCond .ne 7, 3) := by decide +kernel
theorem dX12_backward_16 : decode cX12_backward 16 = .ok (.ldc2_w 406, 3) := by decide +kernel
theorem dX12_backward_19 : decode cX12_backward 19 = .ok (.lreturn, 1) := by decide +kernel
theorem dX12_backward_20 : decode cX12_backward 20 = .ok (.iconst 0, 1) := by decide +kernel
theorem dX12_backward_21 : decode cX12_backward 21 = .ok (.istore 4, 2) := by decide +kernel
theorem dX12_backward_23 : decode cX12_backward 23 = .ok (.iload 4, 2) := by decide +kernel
theorem dX12_backward_25 : decode cX12_backward 25 = .ok (.aload_n 0, 1) := by decide +kernel
theorem dX12_backward_26 : decode cX12_backward 26 = .ok (.getfield 139, 3) := by decide +kernel
theorem dX12_backward_29 : decode cX12_backward 29 = .ok (.iconst 0, 1) := by decide +kernel
theorem dX12_backward_30 : decode cX12_backward 30 = .ok (.iaload, 1) := by decide +kernel
theorem dX12_backward_31 : decode cX12_backward 31 = .ok (.if_icmp .ge 33, 3) := by decide +kernel
theorem dX12_backward_34 : decode cX12_backward 34 = .ok (.aload_n 0, 1) := by decide +kernel
theorem dX12_backward_35 : decode cX12_backward 35 = .ok (.iconst 0, 1) := by decide +kernel
theorem dX12_backward_36 : decode cX12_backward 36 = .ok (.iload 4, 2) := by decide +kernel
theorem dX12_backward_38 : decode cX12_backward 38 = .ok (.iload 4, 2) := by decide +kernel
theorem dX12_backward_40 : decode cX12_backward 40 = .ok (.aload_n 0, 1) := by decide +kernel
theorem dX12_backward_41 : decode cX12_backward 41 = .ok (.getfield 148, 3) := by decide +kernel
theorem dX12_backward_44 : decode cX12_backward 44 = .ok (.iload_n 1, 1) := by decide +kernel
theorem dX12_backward_45 : decode cX12_backward 45 = .ok (.iaload, 1) := by decide +kernel
theorem dX12_backward_46 : decode cX12_backward 46 = .ok (.if_icmp .ne 7, 3) := by decide +kernel
theorem dX12_backward_49 : decode cX12_backward 49 = .ok (.lconst 1, 1) := by decide +kernel
theorem dX12_backward_50 : decode cX12_backward 50 = .ok (.goto 4, 3) := by decide +kernel
theorem dX12_backward_53 : decode cX12_backward 53 = .ok (.lconst 0, 1) := by decide +kernel
theorem dX12_backward_54 : decode cX12_backward 54 = .ok (.lconst 1, 1) := by decide +kernel
theorem dX12_backward_55 : decode cX12_backward 55 = .ok (.invokevirtual 457, 3) := by decide +kernel
theorem dX12_backward_58 : decode cX12_backward 58 = .ok (.iinc 4 1, 3) := by decide +kernel
theorem dX12_backward_61 : decode cX12_backward 61 = .ok (.goto (-38), 3) := by decide +kernel
theorem dX12_backward_64 : decode cX12_backward 64 = .ok (.aload_n 0, 1) := by decide +kernel
theorem dX12_backward_65 : decode cX12_backward 65 = .ok (.iconst 0, 1) := by decide +kernel
theorem dX12_backward_66 : decode cX12_backward 66 = .ok (.putfield 384, 3) := by decide +kernel
theorem dX12_backward_69 : decode cX12_backward 69 = .ok (.aload_n 0, 1) := by decide +kernel
theorem dX12_backward_70 : decode cX12_backward 70 = .ok (.getfield 139, 3) := by decide +kernel
theorem dX12_backward_73 : decode cX12_backward 73 = .ok (.iconst 0, 1) := by decide +kernel
theorem dX12_backward_74 : decode cX12_backward 74 = .ok (.iaload, 1) := by decide +kernel
theorem dX12_backward_75 : decode cX12_backward 75 = .ok (.iconst 1, 1) := by decide +kernel
theorem dX12_backward_76 : decode cX12_backward 76 = .ok (.isub, 1) := by decide +kernel
theorem dX12_backward_77 : decode cX12_backward 77 = .ok (.istore 4, 2) := by decide +kernel
theorem dX12_backward_79 : decode cX12_backward 79 = .ok (.iload 4, 2) := by decide +kernel
theorem dX12_backward_81 : decode cX12_backward 81 = .ok (.ifCond .lt 58, 3) := by decide +kernel
theorem dX12_backward_84 : decode cX12_backward 84 = .ok (.aload_n 0, 1) := by decide +kernel
theorem dX12_backward_85 : decode cX12_backward 85 = .ok (.getfield 384, 3) := by decide +kernel
theorem dX12_backward_88 : decode cX12_backward 88 = .ok (.ifCond .ne 51, 3) := by decide +kernel
theorem dX12_backward_91 : decode cX12_backward 91 = .ok (.aload_n 0, 1) := by decide +kernel
theorem dX12_backward_92 : decode cX12_backward 92 = .ok (.getfield 130, 3) := by decide +kernel
theorem dX12_backward_95 : decode cX12_backward 95 = .ok (.iload 4, 2) := by decide +kernel
theorem dX12_backward_97 : decode cX12_backward 97 = .ok (.iaload, 1) := by decide +kernel
theorem dX12_backward_98 : decode cX12_backward 98 = .ok (.ifCond .eq 35, 3) := by decide +kernel
theorem dX12_backward_101 : decode cX12_backward 101 = .ok (.aload_n 0, 1) := by decide +kernel
theorem dX12_backward_102 : decode cX12_backward 102 = .ok (.getfield 167, 3) := by decide +kernel
theorem dX12_backward_105 : decode cX12_backward 105 = .ok (.iload 4, 2) := by decide +kernel
theorem dX12_backward_107 : decode cX12_backward 107 = .ok (.laload, 1) := by decide +kernel
theorem dX12_backward_108 : decode cX12_backward 108 = .ok (.lconst 0, 1) := by decide +kernel
theorem dX12_backward_109 : decode cX12_backward 109 = .ok (.lcmp, 1) := by decide +kernel
theorem dX12_backward_110 : decode cX12_backward 110 = .ok (.ifCond .eq 23, 3) := by decide +kernel
theorem dX12_backward_113 : decode cX12_backward 113 = .ok (.aload_n 0, 1) := by decide +kernel
theorem dX12_backward_114 : decode cX12_backward 114 = .ok (.iload 4, 2) := by decide +kernel
theorem dX12_backward_116 : decode cX12_backward 116 = .ok (.aload_n 0, 1) := by decide +kernel
theorem dX12_backward_117 : decode cX12_backward 117 = .ok (.getfield 167, 3) := by decide +kernel
theorem dX12_backward_120 : decode cX12_backward 120 = .ok (.iload 4, 2) := by decide +kernel
theorem dX12_backward_122 : decode cX12_backward 122 = .ok (.laload, 1) := by decide +kernel
theorem dX12_backward_123 : decode cX12_backward 123 = .ok (.aload_n 0, 1) := by decide +kernel
theorem dX12_backward_124 : decode cX12_backward 124 = .ok (.getfield 170, 3) := by decide +kernel
theorem dX12_backward_127 : decode cX12_backward 127 = .ok (.iload 4, 2) := by decide +kernel
theorem dX12_backward_129 : decode cX12_backward 129 = .ok (.laload, 1) := by decide +kernel
theorem dX12_backward_130 : decode cX12_backward 130 = .ok (.invokevirtual 474, 3) := by decide +kernel
theorem dX12_backward_133 : decode cX12_backward 133 = .ok (.iinc 4 (-1), 3) := by decide +kernel
theorem dX12_backward_136 : decode cX12_backward 136 = .ok (.goto (-57), 3) := by decide +kernel
theorem dX12_backward_139 : decode cX12_backward 139 = .ok (.aload_n 0, 1) := by decide +kernel
theorem dX12_backward_140 : decode cX12_backward 140 = .ok (.getfield 384, 3) := by decide +kernel
theorem dX12_backward_143 : decode cX12_backward 143 = .ok (.ifCond .eq 9, 3) := by decide +kernel
theorem dX12_backward_146 : decode cX12_backward 146 = .ok (.ldc2_w 406, 3) := by decide +kernel
theorem dX12_backward_149 : decode cX12_backward 149 = .ok (.goto 22, 3) := by decide +kernel
theorem dX12_backward_152 : decode cX12_backward 152 = .ok (.iload_n 3, 1) := by decide +kernel
theorem dX12_backward_153 : decode cX12_backward 153 = .ok (.ifCond .eq 12, 3) := by decide +kernel
theorem dX12_backward_156 : decode cX12_backward 156 = .ok (.aload_n 0, 1) := by decide +kernel
theorem dX12_backward_157 : decode cX12_backward 157 = .ok (.getfield 167, 3) := by decide +kernel
theorem dX12_backward_160 : decode cX12_backward 160 = .ok (.iload_n 2, 1) := by decide +kernel
theorem dX12_backward_161 : decode cX12_backward 161 = .ok (.laload, 1) := by decide +kernel
theorem dX12_backward_162 : decode cX12_backward 162 = .ok (.goto 9, 3) := by decide +kernel
theorem dX12_backward_165 : decode cX12_backward 165 = .ok (.aload_n 0, 1) := by decide +kernel
theorem dX12_backward_166 : decode cX12_backward 166 = .ok (.getfield 170, 3) := by decide +kernel
theorem dX12_backward_169 : decode cX12_backward 169 = .ok (.iload_n 2, 1) := by decide +kernel
theorem dX12_backward_170 : decode cX12_backward 170 = .ok (.laload, 1) := by decide +kernel
theorem dX12_backward_171 : decode cX12_backward 171 = .ok (.lreturn, 1) := by decide +kernel
theorem dX12_twice_0 : decode cX12_twice 0 = .ok (.aload_n 0, 1) := by decide +kernel
theorem dX12_twice_1 : decode cX12_twice 1 = .ok (.iload_n 1, 1) := by decide +kernel
theorem dX12_twice_2 : decode cX12_twice 2 = .ok (.invokevirtual 454, 3) := by decide +kernel
theorem dX12_twice_5 : decode cX12_twice 5 = .ok (.ifCond .eq 19, 3) := by decide +kernel
theorem dX12_twice_8 : decode cX12_twice 8 = .ok (.aload_n 0, 1) := by decide +kernel
theorem dX12_twice_9 : decode cX12_twice 9 = .ok (.iload_n 2, 1) := by decide +kernel
theorem dX12_twice_10 : decode cX12_twice 10 = .ok (.invokevirtual 464, 3) := by decide +kernel
theorem dX12_twice_13 : decode cX12_twice 13 = .ok (.ifCond .eq 11, 3) := by decide +kernel
theorem dX12_twice_16 : decode cX12_twice 16 = .ok (.aload_n 0, 1) := by decide +kernel
theorem dX12_twice_17 : decode cX12_twice 17 = .ok (.iload_n 3, 1) := by decide +kernel
theorem dX12_twice_18 : decode cX12_twice 18 = .ok (.invokevirtual 464, 3) := by decide +kernel
theorem dX12_twice_21 : decode cX12_twice 21 = .ok (.ifCond .ne 7, 3) := by decide +kernel
theorem dX12_twice_24 : decode cX12_twice 24 = .ok (.ldc2_w 406, 3) := by decide +kernel
theorem dX12_twice_27 : decode cX12_twice 27 = .ok (.lreturn, 1) := by decide +kernel
theorem dX12_twice_28 : decode cX12_twice 28 = .ok (.aload_n 0, 1) := by decide +kernel
theorem dX12_twice_29 : decode cX12_twice 29 = .ok (.iload_n 1, 1) := by decide +kernel
theorem dX12_twice_30 : decode cX12_twice 30 = .ok (.invokevirtual 467, 3) := by decide +kernel
theorem dX12_twice_33 : decode cX12_twice 33 = .ok (.aload_n 0, 1) := by decide +kernel
theorem dX12_twice_34 : decode cX12_twice 34 = .ok (.iload_n 1, 1) := by decide +kernel
theorem dX12_twice_35 : decode cX12_twice 35 = .ok (.iload_n 2, 1) := by decide +kernel
theorem dX12_twice_36 : decode cX12_twice 36 = .ok (.iconst 0, 1) := by decide +kernel
theorem dX12_twice_37 : decode cX12_twice 37 = .ok (.invokevirtual 470, 3) := by decide +kernel
theorem dX12_twice_40 : decode cX12_twice 40 = .ok (.ifCond .eq 13, 3) := by decide +kernel
theorem dX12_twice_43 : decode cX12_twice 43 = .ok (.aload_n 0, 1) := by decide +kernel
theorem dX12_twice_44 : decode cX12_twice 44 = .ok (.iload_n 1, 1) := by decide +kernel
theorem dX12_twice_45 : decode cX12_twice 45 = .ok (.iload_n 3, 1) := by decide +kernel
theorem dX12_twice_46 : decode cX12_twice 46 = .ok (.iconst 1, 1) := by decide +kernel
theorem dX12_twice_47 : decode cX12_twice 47 = .ok (.invokevirtual 470, 3) := by decide +kernel
theorem dX12_twice_50 : decode cX12_twice 50 = .ok (.ifCond .ne 7, 3) := by decide +kernel
theorem dX12_twice_53 : decode cX12_twice 53 = .ok (.ldc2_w 406, 3) := by decide +kernel
theorem dX12_twice_56 : decode cX12_twice 56 = .ok (.lreturn, 1) := by decide +kernel
theorem dX12_twice_57 : decode cX12_twice 57 = .ok (.aload_n 0, 1) := by decide +kernel
theorem dX12_twice_58 : decode cX12_twice 58 = .ok (.iconst 0, 1) := by decide +kernel
theorem dX12_twice_59 : decode cX12_twice 59 = .ok (.putfield 384, 3) := by decide +kernel
theorem dX12_twice_62 : decode cX12_twice 62 = .ok (.iconst 0, 1) := by decide +kernel
theorem dX12_twice_63 : decode cX12_twice 63 = .ok (.istore 5, 2) := by decide +kernel
theorem dX12_twice_65 : decode cX12_twice 65 = .ok (.iload 5, 2) := by decide +kernel
theorem dX12_twice_67 : decode cX12_twice 67 = .ok (.aload_n 0, 1) := by decide +kernel
theorem dX12_twice_68 : decode cX12_twice 68 = .ok (.getfield 139, 3) := by decide +kernel
theorem dX12_twice_71 : decode cX12_twice 71 = .ok (.iconst 0, 1) := by decide +kernel
theorem dX12_twice_72 : decode cX12_twice 72 = .ok (.iaload, 1) := by decide +kernel
theorem dX12_twice_73 : decode cX12_twice 73 = .ok (.if_icmp .ge 54, 3) := by decide +kernel
theorem dX12_twice_76 : decode cX12_twice 76 = .ok (.aload_n 0, 1) := by decide +kernel
theorem dX12_twice_77 : decode cX12_twice 77 = .ok (.getfield 384, 3) := by decide +kernel
theorem dX12_twice_80 : decode cX12_twice 80 = .ok (.ifCond .ne 47, 3) := by decide +kernel
theorem dX12_twice_83 : decode cX12_twice 83 = .ok (.aload_n 0, 1) := by decide +kernel
theorem dX12_twice_84 : decode cX12_twice 84 = .ok (.getfield 163, 3) := by decide +kernel
theorem dX12_twice_87 : decode cX12_twice 87 = .ok (.iload 5, 2) := by decide +kernel
theorem dX12_twice_89 : decode cX12_twice 89 = .ok (.baload, 1) := by decide +kernel
theorem dX12_twice_90 : decode cX12_twice 90 = .ok (.ifCond .ne 6, 3) := by decide +kernel
theorem dX12_twice_93 : decode cX12_twice 93 = .ok (.goto 28, 3) := by decide +kernel
theorem dX12_twice_96 : decode cX12_twice 96 = .ok (.aload_n 0, 1) := by decide +kernel
theorem dX12_twice_97 : decode cX12_twice 97 = .ok (.iconst 2, 1) := by decide +kernel
theorem dX12_twice_98 : decode cX12_twice 98 = .ok (.iload 5, 2) := by decide +kernel
theorem dX12_twice_100 : decode cX12_twice 100 = .ok (.lconst 0, 1) := by decide +kernel
theorem dX12_twice_101 : decode cX12_twice 101 = .ok (.lconst 1, 1) := by decide +kernel
theorem dX12_twice_102 : decode cX12_twice 102 = .ok (.invokevirtual 457, 3) := by decide +kernel
theorem dX12_twice_105 : decode cX12_twice 105 = .ok (.aload_n 0, 1) := by decide +kernel
theorem dX12_twice_106 : decode cX12_twice 106 = .ok (.getfield 130, 3) := by decide +kernel
theorem dX12_twice_109 : decode cX12_twice 109 = .ok (.iload 5, 2) := by decide +kernel
theorem dX12_twice_111 : decode cX12_twice 111 = .ok (.iaload, 1) := by decide +kernel
theorem dX12_twice_112 : decode cX12_twice 112 = .ok (.ifCond .eq 9, 3) := by decide +kernel
theorem dX12_twice_115 : decode cX12_twice 115 = .ok (.aload_n 0, 1) := by decide +kernel
theorem dX12_twice_116 : decode cX12_twice 116 = .ok (.iload 5, 2) := by decide +kernel
theorem dX12_twice_118 : decode cX12_twice 118 = .ok (.invokevirtual 481, 3) := by decide +kernel
theorem dX12_twice_121 : decode cX12_twice 121 = .ok (.iinc 5 1, 3) := by decide +kernel
theorem dX12_twice_124 : decode cX12_twice 124 = .ok (.goto (-59), 3) := by decide +kernel
theorem dX12_twice_127 : decode cX12_twice 127 = .ok (.aload_n 0, 1) := by decide +kernel
theorem dX12_twice_128 : decode cX12_twice 128 = .ok (.getfield 384, 3) := by decide +kernel
theorem dX12_twice_131 : decode cX12_twice 131 = .ok (.ifCond .eq 9, 3) := by decide +kernel
theorem dX12_twice_134 : decode cX12_twice 134 = .ok (.ldc2_w 406, 3) := by decide +kernel
theorem dX12_twice_137 : decode cX12_twice 137 = .ok (.goto 41, 3) := by decide +kernel
theorem dX12_twice_140 : decode cX12_twice 140 = .ok (.iload 4, 2) := by decide +kernel
theorem dX12_twice_142 : decode cX12_twice 142 = .ok (.ifCond .eq 21, 3) := by decide +kernel
theorem dX12_twice_145 : decode cX12_twice 145 = .ok (.aload_n 0, 1) := by decide +kernel
theorem dX12_twice_146 : decode cX12_twice 146 = .ok (.getfield 167, 3) := by decide +kernel
theorem dX12_twice_149 : decode cX12_twice 149 = .ok (.sipush 3520, 3) := by decide +kernel
theorem dX12_twice_152 : decode cX12_twice 152 = .ok (.aload_n 0, 1) := by decide +kernel
theorem dX12_twice_153 : decode cX12_twice 153 = .ok (.getfield 148, 3) := by decide +kernel
theorem dX12_twice_156 : decode cX12_twice 156 = .ok (.iload_n 1, 1) := by decide +kernel
theorem dX12_twice_157 : decode cX12_twice 157 = .ok (.iaload, 1) := by decide +kernel
theorem dX12_twice_158 : decode cX12_twice 158 = .ok (.iadd, 1) := by decide +kernel
theorem dX12_twice_159 : decode cX12_twice 159 = .ok (.laload, 1) := by decide +kernel
theorem dX12_twice_160 : decode cX12_twice 160 = .ok (.goto 18, 3) := by decide +kernel
theorem dX12_twice_163 : decode cX12_twice 163 = .ok (.aload_n 0, 1) := by decide +kernel
theorem dX12_twice_164 : decode cX12_twice 164 = .ok (.getfield 170, 3) := by decide +kernel
theorem dX12_twice_167 : decode cX12_twice 167 = .ok (.sipush 3520, 3) := by decide +kernel
theorem dX12_twice_170 : decode cX12_twice 170 = .ok (.aload_n 0, 1) := by decide +kernel
theorem dX12_twice_171 : decode cX12_twice 171 = .ok (.getfield 148, 3) := by decide +kernel
theorem dX12_twice_174 : decode cX12_twice 174 = .ok (.iload_n 1, 1) := by decide +kernel
theorem dX12_twice_175 : decode cX12_twice 175 = .ok (.iaload, 1) := by decide +kernel
theorem dX12_twice_176 : decode cX12_twice 176 = .ok (.iadd, 1) := by decide +kernel
theorem dX12_twice_177 : decode cX12_twice 177 = .ok (.laload, 1) := by decide +kernel
theorem dX12_twice_178 : decode cX12_twice 178 = .ok (.lreturn, 1) := by decide +kernel
theorem dX12_difference_0 : decode cX12_difference 0 = .ok (.aload_n 0, 1) := by decide +kernel
theorem dX12_difference_1 : decode cX12_difference 1 = .ok (.iload_n 1, 1) := by decide +kernel
theorem dX12_difference_2 : decode cX12_difference 2 = .ok (.invokevirtual 454, 3) := by decide +kernel
theorem dX12_difference_5 : decode cX12_difference 5 = .ok (.ifCond .eq 42, 3) := by decide +kernel
theorem dX12_difference_8 : decode cX12_difference 8 = .ok (.aload_n 0, 1) := by decide +kernel
theorem dX12_difference_9 : decode cX12_difference 9 = .ok (.iload_n 2, 1) := by decide +kernel
theorem dX12_difference_10 : decode cX12_difference 10 = .ok (.invokevirtual 464, 3) := by decide +kernel
theorem dX12_difference_13 : decode cX12_difference 13 = .ok (.ifCond .eq 34, 3) := by decide +kernel
theorem dX12_difference_16 : decode cX12_difference 16 = .ok (.iload_n 3, 1) := by decide +kernel
theorem dX12_difference_17 : decode cX12_difference 17 = .ok (.i2l, 1) := by decide +kernel
theorem dX12_difference_18 : decode cX12_difference 18 = .ok (.ldc2_w 404, 3) := by decide +kernel
theorem dX12_difference_21 : decode cX12_difference 21 = .ok (.ldc2_w 398, 3) := by decide +kernel
theorem dX12_difference_24 : decode cX12_difference 24 = .ok (.invokestatic 231, 3) := by decide +kernel
theorem dX12_difference_27 : decode cX12_difference 27 = .ok (.ifCond .eq 20, 3) := by decide +kernel
theorem dX12_difference_30 : decode cX12_difference 30 = .ok (.iload_n 3, 1) := by decide +kernel
theorem dX12_difference_31 : decode cX12_difference 31 = .ok (.ifCond .eq 16, 3) := by decide +kernel
theorem dX12_difference_34 : decode cX12_difference 34 = .ok (.iload 4, 2) := by decide +kernel
theorem dX12_difference_36 : decode cX12_difference 36 = .ok (.i2l, 1) := by decide +kernel
theorem dX12_difference_37 : decode cX12_difference 37 = .ok (.lconst 1, 1) := by decide +kernel
theorem dX12_difference_38 : decode cX12_difference 38 = .ok (.ldc2_w 398, 3) := by decide +kernel
theorem dX12_difference_41 : decode cX12_difference 41 = .ok (.invokestatic 231, 3) := by decide +kernel
theorem dX12_difference_44 : decode cX12_difference 44 = .ok (.ifCond .ne 7, 3) := by decide +kernel
theorem dX12_difference_47 : decode cX12_difference 47 = .ok (.ldc2_w 406, 3) := by decide +kernel
theorem dX12_difference_50 : decode cX12_difference 50 = .ok (.lreturn, 1) := by decide +kernel
theorem dX12_difference_51 : decode cX12_difference 51 = .ok (.iconst 0, 1) := by decide +kernel
theorem dX12_difference_52 : decode cX12_difference 52 = .ok (.istore 6, 2) := by decide +kernel
theorem dX12_difference_54 : decode cX12_difference 54 = .ok (.iload 6, 2) := by decide +kernel
theorem dX12_difference_56 : decode cX12_difference 56 = .ok (.bipush 8, 2) := by decide +kernel
theorem dX12_difference_58 : decode cX12_difference 58 = .ok (.if_icmp .ge 43, 3) := by decide +kernel
theorem dX12_difference_61 : decode cX12_difference 61 = .ok (.aload_n 0, 1) := by decide +kernel
theorem dX12_difference_62 : decode cX12_difference 62 = .ok (.getfield 118, 3) := by decide +kernel
theorem dX12_difference_65 : decode cX12_difference 65 = .ok (.bipush 8, 2) := by decide +kernel
theorem dX12_difference_67 : decode cX12_difference 67 = .ok (.iload 6, 2) := by decide +kernel
theorem dX12_difference_69 : decode cX12_difference 69 = .ok (.iadd, 1) := by decide +kernel
theorem dX12_difference_70 : decode cX12_difference 70 = .ok (.aload_n 0, 1) := by decide +kernel
theorem dX12_difference_71 : decode cX12_difference 71 = .ok (.getfield 118, 3) := by decide +kernel
theorem dX12_difference_74 : decode cX12_difference 74 = .ok (.iload 6, 2) := by decide +kernel
theorem dX12_difference_76 : decode cX12_difference 76 = .ok (.laload, 1) := by decide +kernel
theorem dX12_difference_77 : decode cX12_difference 77 = .ok (.lastore, 1) := by decide +kernel
theorem dX12_difference_78 : decode cX12_difference 78 = .ok (.aload_n 0, 1) := by decide +kernel
theorem dX12_difference_79 : decode cX12_difference 79 = .ok (.getfield 121, 3) := by decide +kernel
theorem dX12_difference_82 : decode cX12_difference 82 = .ok (.bipush 8, 2) := by decide +kernel
theorem dX12_difference_84 : decode cX12_difference 84 = .ok (.iload 6, 2) := by decide +kernel
theorem dX12_difference_86 : decode cX12_difference 86 = .ok (.iadd, 1) := by decide +kernel
theorem dX12_difference_87 : decode cX12_difference 87 = .ok (.aload_n 0, 1) := by decide +kernel
theorem dX12_difference_88 : decode cX12_difference 88 = .ok (.getfield 121, 3) := by decide +kernel
theorem dX12_difference_91 : decode cX12_difference 91 = .ok (.iload 6, 2) := by decide +kernel
theorem dX12_difference_93 : decode cX12_difference 93 = .ok (.laload, 1) := by decide +kernel
theorem dX12_difference_94 : decode cX12_difference 94 = .ok (.lastore, 1) := by decide +kernel
theorem dX12_difference_95 : decode cX12_difference 95 = .ok (.iinc 6 1, 3) := by decide +kernel
theorem dX12_difference_98 : decode cX12_difference 98 = .ok (.goto (-44), 3) := by decide +kernel
theorem dX12_difference_101 : decode cX12_difference 101 = .ok (.aload_n 0, 1) := by decide +kernel
theorem dX12_difference_102 : decode cX12_difference 102 = .ok (.iconst 0, 1) := by decide +kernel
theorem dX12_difference_103 : decode cX12_difference 103 = .ok (.putfield 384, 3) := by decide +kernel
theorem dX12_difference_106 : decode cX12_difference 106 = .ok (.aload_n 0, 1) := by decide +kernel
theorem dX12_difference_107 : decode cX12_difference 107 = .ok (.iload_n 3, 1) := by decide +kernel
theorem dX12_difference_108 : decode cX12_difference 108 = .ok (.i2l, 1) := by decide +kernel
theorem dX12_difference_109 : decode cX12_difference 109 = .ok (.iload 4, 2) := by decide +kernel
theorem dX12_difference_111 : decode cX12_difference 111 = .ok (.i2l, 1) := by decide +kernel
theorem dX12_difference_112 : decode cX12_difference 112 = .ok (.invokevirtual 400, 3) := by decide +kernel
theorem dX12_difference_115 : decode cX12_difference 115 = .ok (.aload_n 0, 1) := by decide +kernel
theorem dX12_difference_116 : decode cX12_difference 116 = .ok (.getfield 387, 3) := by decide +kernel
theorem dX12_difference_119 : decode cX12_difference 119 = .ok (.lstore 6, 2) := by decide +kernel
theorem dX12_difference_121 : decode cX12_difference 121 = .ok (.aload_n 0, 1) := by decide +kernel
theorem dX12_difference_122 : decode cX12_difference 122 = .ok (.getfield 391, 3) := by decide +kernel
theorem dX12_difference_125 : decode cX12_difference 125 = .ok (.lstore 8, 2) := by decide +kernel
theorem dX12_difference_127 : decode cX12_difference 127 = .ok (.aload_n 0, 1) := by decide +kernel
theorem dX12_difference_128 : decode cX12_difference 128 = .ok (.aload_n 0, 1) := by decide +kernel
theorem dX12_difference_129 : decode cX12_difference 129 = .ok (.getfield 118, 3) := by decide +kernel
theorem dX12_difference_132 : decode cX12_difference 132 = .ok (.iload_n 2, 1) := by decide +kernel
theorem dX12_difference_133 : decode cX12_difference 133 = .ok (.laload, 1) := by decide +kernel
theorem dX12_difference_134 : decode cX12_difference 134 = .ok (.aload_n 0, 1) := by decide +kernel
theorem dX12_difference_135 : decode cX12_difference 135 = .ok (.getfield 121, 3) := by decide +kernel
theorem dX12_difference_138 : decode cX12_difference 138 = .ok (.iload_n 2, 1) := by decide +kernel
theorem dX12_difference_139 : decode cX12_difference 139 = .ok (.laload, 1) := by decide +kernel
theorem dX12_difference_140 : decode cX12_difference 140 = .ok (.lload 6, 2) := by decide +kernel
theorem dX12_difference_142 : decode cX12_difference 142 = .ok (.lload 8, 2) := by decide +kernel
theorem dX12_difference_144 : decode cX12_difference 144 = .ok (.invokevirtual 424, 3) := by decide +kernel
theorem dX12_difference_147 : decode cX12_difference 147 = .ok (.aload_n 0, 1) := by decide +kernel
theorem dX12_difference_148 : decode cX12_difference 148 = .ok (.getfield 384, 3) := by decide +kernel
theorem dX12_difference_151 : decode cX12_difference 151 = .ok (.ifCond .eq 7, 3) := by decide +kernel
theorem dX12_difference_154 : decode cX12_difference 154 = .ok (.ldc2_w 406, 3) := by decide +kernel
theorem dX12_difference_157 : decode cX12_difference 157 = .ok (.lreturn, 1) := by decide +kernel
theorem dX12_difference_158 : decode cX12_difference 158 = .ok (.aload_n 0, 1) := by decide +kernel
theorem dX12_difference_159 : decode cX12_difference 159 = .ok (.getfield 118, 3) := by decide +kernel
theorem dX12_difference_162 : decode cX12_difference 162 = .ok (.bipush 8, 2) := by decide +kernel
theorem dX12_difference_164 : decode cX12_difference 164 = .ok (.iload_n 2, 1) := by decide +kernel
theorem dX12_difference_165 : decode cX12_difference 165 = .ok (.iadd, 1) := by decide +kernel
theorem dX12_difference_166 : decode cX12_difference 166 = .ok (.aload_n 0, 1) := by decide +kernel
theorem dX12_difference_167 : decode cX12_difference 167 = .ok (.getfield 387, 3) := by decide +kernel
theorem dX12_difference_170 : decode cX12_difference 170 = .ok (.lastore, 1) := by decide +kernel
theorem dX12_difference_171 : decode cX12_difference 171 = .ok (.aload_n 0, 1) := by decide +kernel
theorem dX12_difference_172 : decode cX12_difference 172 = .ok (.getfield 121, 3) := by decide +kernel
theorem dX12_difference_175 : decode cX12_difference 175 = .ok (.bipush 8, 2) := by decide +kernel
theorem dX12_difference_177 : decode cX12_difference 177 = .ok (.iload_n 2, 1) := by decide +kernel
theorem dX12_difference_178 : decode cX12_difference 178 = .ok (.iadd, 1) := by decide +kernel
theorem dX12_difference_179 : decode cX12_difference 179 = .ok (.aload_n 0, 1) := by decide +kernel
theorem dX12_difference_180 : decode cX12_difference 180 = .ok (.getfield 391, 3) := by decide +kernel
theorem dX12_difference_183 : decode cX12_difference 183 = .ok (.lastore, 1) := by decide +kernel
theorem dX12_difference_184 : decode cX12_difference 184 = .ok (.aload_n 0, 1) := by decide +kernel
theorem dX12_difference_185 : decode cX12_difference 185 = .ok (.iconst 1, 1) := by decide +kernel
theorem dX12_difference_186 : decode cX12_difference 186 = .ok (.invokevirtual 451, 3) := by decide +kernel
theorem dX12_difference_189 : decode cX12_difference 189 = .ok (.aload_n 0, 1) := by decide +kernel
theorem dX12_difference_190 : decode cX12_difference 190 = .ok (.getfield 154, 3) := by decide +kernel
theorem dX12_difference_193 : decode cX12_difference 193 = .ok (.iconst 1, 1) := by decide +kernel
theorem dX12_difference_194 : decode cX12_difference 194 = .ok (.iaload, 1) := by decide +kernel
theorem dX12_difference_195 : decode cX12_difference 195 = .ok (.ifCond .ne 13, 3) := by decide +kernel
theorem dX12_difference_198 : decode cX12_difference 198 = .ok (.iload_n 1, 1) := by decide +kernel
theorem dX12_difference_199 : decode cX12_difference 199 = .ok (.aload_n 0, 1) := by decide +kernel
theorem dX12_difference_200 : decode cX12_difference 200 = .ok (.getfield 145, 3) := by decide +kernel
theorem dX12_difference_203 : decode cX12_difference 203 = .ok (.iconst 1, 1) := by decide +kernel
theorem dX12_difference_204 : decode cX12_difference 204 = .ok (.iaload, 1) := by decide +kernel
theorem dX12_difference_205 : decode cX12_difference 205 = .ok (.if_icmp .lt 7, 3) := by decide +kernel
theorem dX12_difference_208 : decode cX12_difference 208 = .ok (.ldc2_w 406, 3) := by decide +kernel
theorem dX12_difference_211 : decode cX12_difference 211 = .ok (.lreturn, 1) := by decide +kernel
theorem dX12_difference_212 : decode cX12_difference 212 = .ok (.sipush 1760, 3) := by decide +kernel
theorem dX12_difference_215 : decode cX12_difference 215 = .ok (.aload_n 0, 1) := by decide +kernel
theorem dX12_difference_216 : decode cX12_difference 216 = .ok (.getfield 148, 3) := by decide +kernel
theorem dX12_difference_219 : decode cX12_difference 219 = .ok (.bipush 12, 2) := by decide +kernel
theorem dX12_difference_221 : decode cX12_difference 221 = .ok (.iload_n 1, 1) := by decide +kernel
theorem dX12_difference_222 : decode cX12_difference 222 = .ok (.iadd, 1) := by decide +kernel
theorem dX12_difference_223 : decode cX12_difference 223 = .ok (.iaload, 1) := by decide +kernel
theorem dX12_difference_224 : decode cX12_difference 224 = .ok (.iadd, 1) := by decide +kernel
theorem dX12_difference_225 : decode cX12_difference 225 = .ok (.istore 10, 2) := by decide +kernel
theorem dX12_difference_227 : decode cX12_difference 227 = .ok (.aload_n 0, 1) := by decide +kernel
theorem dX12_difference_228 : decode cX12_difference 228 = .ok (.iconst 0, 1) := by decide +kernel
theorem dX12_difference_229 : decode cX12_difference 229 = .ok (.putfield 384, 3) := by decide +kernel
theorem dX12_difference_232 : decode cX12_difference 232 = .ok (.aload_n 0, 1) := by decide +kernel
theorem dX12_difference_233 : decode cX12_difference 233 = .ok (.aload_n 0, 1) := by decide +kernel
theorem dX12_difference_234 : decode cX12_difference 234 = .ok (.getfield 124, 3) := by decide +kernel
theorem dX12_difference_237 : decode cX12_difference 237 = .ok (.iload 10, 2) := by decide +kernel
theorem dX12_difference_239 : decode cX12_difference 239 = .ok (.laload, 1) := by decide +kernel
theorem dX12_difference_240 : decode cX12_difference 240 = .ok (.aload_n 0, 1) := by decide +kernel
theorem dX12_difference_241 : decode cX12_difference 241 = .ok (.getfield 127, 3) := by decide +kernel
theorem dX12_difference_244 : decode cX12_difference 244 = .ok (.iload 10, 2) := by decide +kernel
theorem dX12_difference_246 : decode cX12_difference 246 = .ok (.laload, 1) := by decide +kernel
theorem dX12_difference_247 : decode cX12_difference 247 = .ok (.aload_n 0, 1) := by decide +kernel
theorem dX12_difference_248 : decode cX12_difference 248 = .ok (.getfield 124, 3) := by decide +kernel
theorem dX12_difference_251 : decode cX12_difference 251 = .ok (.aload_n 0, 1) := by decide +kernel
theorem dX12_difference_252 : decode cX12_difference 252 = .ok (.getfield 148, 3) := by decide +kernel
theorem dX12_difference_255 : decode cX12_difference 255 = .ok (.iload_n 1, 1) := by decide +kernel
theorem dX12_difference_256 : decode cX12_difference 256 = .ok (.iaload, 1) := by decide +kernel
theorem dX12_difference_257 : decode cX12_difference 257 = .ok (.laload, 1) := by decide +kernel
theorem dX12_difference_258 : decode cX12_difference 258 = .ok (.aload_n 0, 1) := by decide +kernel
theorem dX12_difference_259 : decode cX12_difference 259 = .ok (.getfield 127, 3) := by decide +kernel
theorem dX12_difference_262 : decode cX12_difference 262 = .ok (.aload_n 0, 1) := by decide +kernel
theorem dX12_difference_263 : decode cX12_difference 263 = .ok (.getfield 148, 3) := by decide +kernel
theorem dX12_difference_266 : decode cX12_difference 266 = .ok (.iload_n 1, 1) := by decide +kernel
theorem dX12_difference_267 : decode cX12_difference 267 = .ok (.iaload, 1) := by decide +kernel
theorem dX12_difference_268 : decode cX12_difference 268 = .ok (.laload, 1) := by decide +kernel
theorem dX12_difference_269 : decode cX12_difference 269 = .ok (.invokevirtual 408, 3) := by decide +kernel
theorem dX12_difference_272 : decode cX12_difference 272 = .ok (.aload_n 0, 1) := by decide +kernel
theorem dX12_difference_273 : decode cX12_difference 273 = .ok (.aload_n 0, 1) := by decide +kernel
theorem dX12_difference_274 : decode cX12_difference 274 = .ok (.getfield 387, 3) := by decide +kernel
theorem dX12_difference_277 : decode cX12_difference 277 = .ok (.aload_n 0, 1) := by decide +kernel
theorem dX12_difference_278 : decode cX12_difference 278 = .ok (.getfield 391, 3) := by decide +kernel
theorem dX12_difference_281 : decode cX12_difference 281 = .ok (.lload 6, 2) := by decide +kernel
theorem dX12_difference_283 : decode cX12_difference 283 = .ok (.lload 8, 2) := by decide +kernel
theorem dX12_difference_285 : decode cX12_difference 285 = .ok (.invokevirtual 430, 3) := by decide +kernel
theorem dX12_difference_288 : decode cX12_difference 288 = .ok (.aload_n 0, 1) := by decide +kernel
theorem dX12_difference_289 : decode cX12_difference 289 = .ok (.getfield 384, 3) := by decide +kernel
theorem dX12_difference_292 : decode cX12_difference 292 = .ok (.ifCond .eq 9, 3) := by decide +kernel
theorem dX12_difference_295 : decode cX12_difference 295 = .ok (.ldc2_w 406, 3) := by decide +kernel
theorem dX12_difference_298 : decode cX12_difference 298 = .ok (.goto 19, 3) := by decide +kernel
theorem dX12_difference_301 : decode cX12_difference 301 = .ok (.iload 5, 2) := by decide +kernel
theorem dX12_difference_303 : decode cX12_difference 303 = .ok (.ifCond .eq 10, 3) := by decide +kernel
theorem dX12_difference_306 : decode cX12_difference 306 = .ok (.aload_n 0, 1) := by decide +kernel
theorem dX12_difference_307 : decode cX12_difference 307 = .ok (.getfield 387, 3) := by decide +kernel
theorem dX12_difference_310 : decode cX12_difference 310 = .ok (.goto 7, 3) := by decide +kernel
theorem dX12_difference_313 : decode cX12_difference 313 = .ok (.aload_n 0, 1) := by decide +kernel
theorem dX12_difference_314 : decode cX12_difference 314 = .ok (.getfield 391, 3) := by decide +kernel
theorem dX12_difference_317 : decode cX12_difference 317 = .ok (.lreturn, 1) := by decide +kernel
theorem dX12_moves_0 : decode cX12_moves 0 = .ok (.aload_n 0, 1) := by decide +kernel
theorem dX12_moves_1 : decode cX12_moves 1 = .ok (.iload_n 1, 1) := by decide +kernel
theorem dX12_moves_2 : decode cX12_moves 2 = .ok (.invokevirtual 454, 3) := by decide +kernel
theorem dX12_moves_5 : decode cX12_moves 5 = .ok (.ifCond .eq 11, 3) := by decide +kernel
theorem dX12_moves_8 : decode cX12_moves 8 = .ok (.aload_n 0, 1) := by decide +kernel
theorem dX12_moves_9 : decode cX12_moves 9 = .ok (.iload_n 1, 1) := by decide +kernel
theorem dX12_moves_10 : decode cX12_moves 10 = .ok (.invokevirtual 484, 3) := by decide +kernel
theorem dX12_moves_13 : decode cX12_moves 13 = .ok (.goto 4, 3) := by decide +kernel
theorem dX12_moves_16 : decode cX12_moves 16 = .ok (.iconst (-1), 1) := by decide +kernel
theorem dX12_moves_17 : decode cX12_moves 17 = .ok (.ireturn, 1) := by decide +kernel
theorem dX12_ways_0 : decode cX12_ways 0 = .ok (.aload_n 0, 1) := by decide +kernel
theorem dX12_ways_1 : decode cX12_ways 1 = .ok (.iload_n 1, 1) := by decide +kernel
theorem dX12_ways_2 : decode cX12_ways 2 = .ok (.invokevirtual 454, 3) := by decide +kernel
theorem dX12_ways_5 : decode cX12_ways 5 = .ok (.ifCond .eq 11, 3) := by decide +kernel
theorem dX12_ways_8 : decode cX12_ways 8 = .ok (.aload_n 0, 1) := by decide +kernel
theorem dX12_ways_9 : decode cX12_ways 9 = .ok (.iload_n 2, 1) := by decide +kernel
theorem dX12_ways_10 : decode cX12_ways 10 = .ok (.invokevirtual 464, 3) := by decide +kernel
theorem dX12_ways_13 : decode cX12_ways 13 = .ok (.ifCond .ne 5, 3) := by decide +kernel
theorem dX12_ways_16 : decode cX12_ways 16 = .ok (.iconst (-1), 1) := by decide +kernel
theorem dX12_ways_17 : decode cX12_ways 17 = .ok (.ireturn, 1) := by decide +kernel
theorem dX12_ways_18 : decode cX12_ways 18 = .ok (.iconst 0, 1) := by decide +kernel
theorem dX12_ways_19 : decode cX12_ways 19 = .ok (.istore_n 3, 1) := by decide +kernel
theorem dX12_ways_20 : decode cX12_ways 20 = .ok (.iload_n 3, 1) := by decide +kernel
theorem dX12_ways_21 : decode cX12_ways 21 = .ok (.aload_n 0, 1) := by decide +kernel
theorem dX12_ways_22 : decode cX12_ways 22 = .ok (.getfield 139, 3) := by decide +kernel
theorem dX12_ways_25 : decode cX12_ways 25 = .ok (.iconst 0, 1) := by decide +kernel
theorem dX12_ways_26 : decode cX12_ways 26 = .ok (.iaload, 1) := by decide +kernel
theorem dX12_ways_27 : decode cX12_ways 27 = .ok (.if_icmp .ge 136, 3) := by decide +kernel
theorem dX12_ways_30 : decode cX12_ways 30 = .ok (.aload_n 0, 1) := by decide +kernel
theorem dX12_ways_31 : decode cX12_ways 31 = .ok (.getfield 173, 3) := by decide +kernel
theorem dX12_ways_34 : decode cX12_ways 34 = .ok (.iload_n 3, 1) := by decide +kernel
theorem dX12_ways_35 : decode cX12_ways 35 = .ok (.iload_n 3, 1) := by decide +kernel
theorem dX12_ways_36 : decode cX12_ways 36 = .ok (.iload_n 2, 1) := by decide +kernel
theorem dX12_ways_37 : decode cX12_ways 37 = .ok (.if_icmp .ne 7, 3) := by decide +kernel
theorem dX12_ways_40 : decode cX12_ways 40 = .ok (.lconst 1, 1) := by decide +kernel
theorem dX12_ways_41 : decode cX12_ways 41 = .ok (.goto 4, 3) := by decide +kernel
theorem dX12_ways_44 : decode cX12_ways 44 = .ok (.lconst 0, 1) := by decide +kernel
theorem dX12_ways_45 : decode cX12_ways 45 = .ok (.lastore, 1) := by decide +kernel
theorem dX12_ways_46 : decode cX12_ways 46 = .ok (.aload_n 0, 1) := by decide +kernel
theorem dX12_ways_47 : decode cX12_ways 47 = .ok (.getfield 130, 3) := by decide +kernel
theorem dX12_ways_50 : decode cX12_ways 50 = .ok (.iload_n 3, 1) := by decide +kernel
theorem dX12_ways_51 : decode cX12_ways 51 = .ok (.iaload, 1) := by decide +kernel
theorem dX12_ways_52 : decode cX12_ways 52 = .ok (.ifCond .ne 6, 3) := by decide +kernel
theorem dX12_ways_55 : decode cX12_ways 55 = .ok (.goto 102, 3) := by decide +kernel
theorem dX12_ways_58 : decode cX12_ways 58 = .ok (.aload_n 0, 1) := by decide +kernel
theorem dX12_ways_59 : decode cX12_ways 59 = .ok (.getfield 130, 3) := by decide +kernel
theorem dX12_ways_62 : decode cX12_ways 62 = .ok (.iload_n 3, 1) := by decide +kernel
theorem dX12_ways_63 : decode cX12_ways 63 = .ok (.iaload, 1) := by decide +kernel
theorem dX12_ways_64 : decode cX12_ways 64 = .ok (.iconst 5, 1) := by decide +kernel
theorem dX12_ways_65 : decode cX12_ways 65 = .ok (.if_icmp .eq 25, 3) := by decide +kernel
theorem dX12_ways_68 : decode cX12_ways 68 = .ok (.aload_n 0, 1) := by decide +kernel
theorem dX12_ways_69 : decode cX12_ways 69 = .ok (.getfield 130, 3) := by decide +kernel
theorem dX12_ways_72 : decode cX12_ways 72 = .ok (.iload_n 3, 1) := by decide +kernel
theorem dX12_ways_73 : decode cX12_ways 73 = .ok (.iaload, 1) := by decide +kernel
theorem dX12_ways_74 : decode cX12_ways 74 = .ok (.bipush 6, 2) := by decide +kernel
theorem dX12_ways_76 : decode cX12_ways 76 = .ok (.if_icmp .eq 14, 3) := by decide +kernel
theorem dX12_ways_79 : decode cX12_ways 79 = .ok (.aload_n 0, 1) := by decide +kernel
theorem dX12_ways_80 : decode cX12_ways 80 = .ok (.getfield 130, 3) := by decide +kernel
theorem dX12_ways_83 : decode cX12_ways 83 = .ok (.iload_n 3, 1) := by decide +kernel
theorem dX12_ways_84 : decode cX12_ways 84 = .ok (.iaload, 1) := by decide +kernel
theorem dX12_ways_85 : decode cX12_ways 85 = .ok (.bipush 7, 2) := by decide +kernel
theorem dX12_ways_87 : decode cX12_ways 87 = .ok (.if_icmp .ne 7, 3) := by decide +kernel
theorem dX12_ways_90 : decode cX12_ways 90 = .ok (.iconst 1, 1) := by decide +kernel
theorem dX12_ways_91 : decode cX12_ways 91 = .ok (.goto 4, 3) := by decide +kernel
theorem dX12_ways_94 : decode cX12_ways 94 = .ok (.iconst 0, 1) := by decide +kernel
theorem dX12_ways_95 : decode cX12_ways 95 = .ok (.istore 4, 2) := by decide +kernel
theorem dX12_ways_97 : decode cX12_ways 97 = .ok (.aload_n 0, 1) := by decide +kernel
theorem dX12_ways_98 : decode cX12_ways 98 = .ok (.getfield 173, 3) := by decide +kernel
theorem dX12_ways_101 : decode cX12_ways 101 = .ok (.iload_n 3, 1) := by decide +kernel
theorem dX12_ways_102 : decode cX12_ways 102 = .ok (.aload_n 0, 1) := by decide +kernel
theorem dX12_ways_103 : decode cX12_ways 103 = .ok (.getfield 173, 3) := by decide +kernel
theorem dX12_ways_106 : decode cX12_ways 106 = .ok (.aload_n 0, 1) := by decide +kernel
theorem dX12_ways_107 : decode cX12_ways 107 = .ok (.getfield 133, 3) := by decide +kernel
theorem dX12_ways_110 : decode cX12_ways 110 = .ok (.iload_n 3, 1) := by decide +kernel
theorem dX12_ways_111 : decode cX12_ways 111 = .ok (.iaload, 1) := by decide +kernel
theorem dX12_ways_112 : decode cX12_ways 112 = .ok (.laload, 1) := by decide +kernel
theorem dX12_ways_113 : decode cX12_ways 113 = .ok (.iload 4, 2) := by decide +kernel
theorem dX12_ways_115 : decode cX12_ways 115 = .ok (.ifCond .eq 7, 3) := by decide +kernel
theorem dX12_ways_118 : decode cX12_ways 118 = .ok (.lconst 0, 1) := by decide +kernel
theorem dX12_ways_119 : decode cX12_ways 119 = .ok (.goto 14, 3) := by decide +kernel
theorem dX12_ways_122 : decode cX12_ways 122 = .ok (.aload_n 0, 1) := by decide +kernel
theorem dX12_ways_123 : decode cX12_ways 123 = .ok (.getfield 173, 3) := by decide +kernel
theorem dX12_ways_126 : decode cX12_ways 126 = .ok (.aload_n 0, 1) := by decide +kernel
theorem dX12_ways_127 : decode cX12_ways 127 = .ok (.getfield 136, 3) := by decide +kernel
theorem dX12_ways_130 : decode cX12_ways 130 = .ok (.iload_n 3, 1) := by decide +kernel
theorem dX12_ways_131 : decode cX12_ways 131 = .ok (.iaload, 1) := by decide +kernel
theorem dX12_ways_132 : decode cX12_ways 132 = .ok (.laload, 1) := by decide +kernel
theorem dX12_ways_133 : decode cX12_ways 133 = .ok (.ladd, 1) := by decide +kernel
theorem dX12_ways_134 : decode cX12_ways 134 = .ok (.lastore, 1) := by decide +kernel
theorem dX12_ways_135 : decode cX12_ways 135 = .ok (.aload_n 0, 1) := by decide +kernel
theorem dX12_ways_136 : decode cX12_ways 136 = .ok (.getfield 173, 3) := by decide +kernel
theorem dX12_ways_139 : decode cX12_ways 139 = .ok (.iload_n 3, 1) := by decide +kernel
theorem dX12_ways_140 : decode cX12_ways 140 = .ok (.laload, 1) := by decide +kernel
theorem dX12_ways_141 : decode cX12_ways 141 = .ok (.ldc2_w 398, 3) := by decide +kernel
theorem dX12_ways_144 : decode cX12_ways 144 = .ok (.lcmp, 1) := by decide +kernel
theorem dX12_ways_145 : decode cX12_ways 145 = .ok (.ifCond .le 12, 3) := by decide +kernel
theorem dX12_ways_148 : decode cX12_ways 148 = .ok (.aload_n 0, 1) := by decide +kernel
theorem dX12_ways_149 : decode cX12_ways 149 = .ok (.getfield 173, 3) := by decide +kernel
theorem dX12_ways_152 : decode cX12_ways 152 = .ok (.iload_n 3, 1) := by decide +kernel
theorem dX12_ways_153 : decode cX12_ways 153 = .ok (.ldc2_w 398, 3) := by decide +kernel
theorem dX12_ways_156 : decode cX12_ways 156 = .ok (.lastore, 1) := by decide +kernel
theorem dX12_ways_157 : decode cX12_ways 157 = .ok (.iinc 3 1, 3) := by decide +kernel
theorem dX12_ways_160 : decode cX12_ways 160 = .ok (.goto (-140), 3) := by decide +kernel
theorem dX12_ways_163 : decode cX12_ways 163 = .ok (.aload_n 0, 1) := by decide +kernel
theorem dX12_ways_164 : decode cX12_ways 164 = .ok (.getfield 173, 3) := by decide +kernel
theorem dX12_ways_167 : decode cX12_ways 167 = .ok (.aload_n 0, 1) := by decide +kernel
theorem dX12_ways_168 : decode cX12_ways 168 = .ok (.getfield 148, 3) := by decide +kernel
theorem dX12_ways_171 : decode cX12_ways 171 = .ok (.iload_n 1, 1) := by decide +kernel
theorem dX12_ways_172 : decode cX12_ways 172 = .ok (.iaload, 1) := by decide +kernel
theorem dX12_ways_173 : decode cX12_ways 173 = .ok (.laload, 1) := by decide +kernel
theorem dX12_ways_174 : decode cX12_ways 174 = .ok (.l2i, 1) := by decide +kernel
theorem dX12_ways_175 : decode cX12_ways 175 = .ok (.ireturn, 1) := by decide +kernel
theorem dX12_groups_0 : decode cX12_groups 0 = .ok (.aload_n 0, 1) := by decide +kernel
theorem dX12_groups_1 : decode cX12_groups 1 = .ok (.getfield 371, 3) := by decide +kernel
theorem dX12_groups_4 : decode cX12_groups 4 = .ok (.ifCond .ne 5, 3) := by decide +kernel
theorem dX12_groups_7 : decode cX12_groups 7 = .ok (.iconst (-1), 1) := by decide +kernel
theorem dX12_groups_8 : decode cX12_groups 8 = .ok (.ireturn, 1) := by decide +kernel
theorem dX12_groups_9 : decode cX12_groups 9 = .ok (.aload_n 0, 1) := by decide +kernel
theorem dX12_groups_10 : decode cX12_groups 10 = .ok (.aload_n 0, 1) := by decide +kernel
theorem dX12_groups_11 : decode cX12_groups 11 = .ok (.getfield 60, 3) := by decide +kernel
theorem dX12_groups_14 : decode cX12_groups 14 = .ok (.iconst 5, 1) := by decide +kernel
theorem dX12_groups_15 : decode cX12_groups 15 = .ok (.iaload, 1) := by decide +kernel
theorem dX12_groups_16 : decode cX12_groups 16 = .ok (.putfield 488, 3) := by decide +kernel
theorem dX12_groups_19 : decode cX12_groups 19 = .ok (.iconst 0, 1) := by decide +kernel
theorem dX12_groups_20 : decode cX12_groups 20 = .ok (.istore_n 1, 1) := by decide +kernel
theorem dX12_groups_21 : decode cX12_groups 21 = .ok (.iload_n 1, 1) := by decide +kernel
theorem dX12_groups_22 : decode cX12_groups 22 = .ok (.bipush 8, 2) := by decide +kernel
theorem dX12_groups_24 : decode cX12_groups 24 = .ok (.if_icmp .ge 16, 3) := by decide +kernel
theorem dX12_groups_27 : decode cX12_groups 27 = .ok (.aload_n 0, 1) := by decide +kernel
theorem dX12_groups_28 : decode cX12_groups 28 = .ok (.getfield 179, 3) := by decide +kernel
theorem dX12_groups_31 : decode cX12_groups 31 = .ok (.iload_n 1, 1) := by decide +kernel
theorem dX12_groups_32 : decode cX12_groups 32 = .ok (.iconst 0, 1) := by decide +kernel
theorem dX12_groups_33 : decode cX12_groups 33 = .ok (.iastore, 1) := by decide +kernel
theorem dX12_groups_34 : decode cX12_groups 34 = .ok (.iinc 1 1, 3) := by decide +kernel
theorem dX12_groups_37 : decode cX12_groups 37 = .ok (.goto (-16), 3) := by decide +kernel
theorem dX12_groups_40 : decode cX12_groups 40 = .ok (.iconst 0, 1) := by decide +kernel
theorem dX12_groups_41 : decode cX12_groups 41 = .ok (.istore_n 1, 1) := by decide +kernel
theorem dX12_groups_42 : decode cX12_groups 42 = .ok (.iload_n 1, 1) := by decide +kernel
theorem dX12_groups_43 : decode cX12_groups 43 = .ok (.aload_n 0, 1) := by decide +kernel
theorem dX12_groups_44 : decode cX12_groups 44 = .ok (.getfield 145, 3) := by decide +kernel
theorem dX12_groups_47 : decode cX12_groups 47 = .ok (.iconst 0, 1) := by decide +kernel
theorem dX12_groups_48 : decode cX12_groups 48 = .ok (.iaload, 1) := by decide +kernel
theorem dX12_groups_49 : decode cX12_groups 49 = .ok (.if_icmp .ge 50, 3) := by decide +kernel
theorem dX12_groups_52 : decode cX12_groups 52 = .ok (.aload_n 0, 1) := by decide +kernel
theorem dX12_groups_53 : decode cX12_groups 53 = .ok (.iload_n 1, 1) := by decide +kernel
theorem dX12_groups_54 : decode cX12_groups 54 = .ok (.invokevirtual 484, 3) := by decide +kernel
theorem dX12_groups_57 : decode cX12_groups 57 = .ok (.istore_n 2, 1) := by decide +kernel
theorem dX12_groups_58 : decode cX12_groups 58 = .ok (.iconst 0, 1) := by decide +kernel
theorem dX12_groups_59 : decode cX12_groups 59 = .ok (.istore_n 3, 1) := by decide +kernel
theorem dX12_groups_60 : decode cX12_groups 60 = .ok (.iload_n 3, 1) := by decide +kernel
theorem dX12_groups_61 : decode cX12_groups 61 = .ok (.aload_n 0, 1) := by decide +kernel
theorem dX12_groups_62 : decode cX12_groups 62 = .ok (.getfield 488, 3) := by decide +kernel
theorem dX12_groups_65 : decode cX12_groups 65 = .ok (.if_icmp .ge 28, 3) := by decide +kernel
theorem dX12_groups_68 : decode cX12_groups 68 = .ok (.iload_n 2, 1) := by decide +kernel
theorem dX12_groups_69 : decode cX12_groups 69 = .ok (.iload_n 3, 1) := by decide +kernel
theorem dX12_groups_70 : decode cX12_groups 70 = .ok (.ishr, 1) := by decide +kernel
theorem dX12_groups_71 : decode cX12_groups 71 = .ok (.iconst 1, 1) := by decide +kernel
theorem dX12_groups_72 : decode cX12_groups 72 = .ok (.iand, 1) := by decide +kernel
theorem dX12_groups_73 : decode cX12_groups 73 = .ok (.iconst 1, 1) := by decide +kernel
theorem dX12_groups_74 : decode cX12_groups 74 = .ok (.if_icmp .ne 13, 3) := by decide +kernel
theorem dX12_groups_77 : decode cX12_groups 77 = .ok (.aload_n 0, 1) := by decide +kernel
theorem dX12_groups_78 : decode cX12_groups 78 = .ok (.getfield 179, 3) := by decide +kernel
theorem dX12_groups_81 : decode cX12_groups 81 = .ok (.iload_n 3, 1) := by decide +kernel
theorem dX12_groups_82 : decode cX12_groups 82 = .ok (.dup2, 1) := by decide +kernel
theorem dX12_groups_83 : decode cX12_groups 83 = .ok (.iaload, 1) := by decide +kernel
theorem dX12_groups_84 : decode cX12_groups 84 = .ok (.iload_n 2, 1) := by decide +kernel
theorem dX12_groups_85 : decode cX12_groups 85 = .ok (.ior, 1) := by decide +kernel
theorem dX12_groups_86 : decode cX12_groups 86 = .ok (.iastore, 1) := by decide +kernel
theorem dX12_groups_87 : decode cX12_groups 87 = .ok (.iinc 3 1, 3) := by decide +kernel
theorem dX12_groups_90 : decode cX12_groups 90 = .ok (.goto (-30), 3) := by decide +kernel
theorem dX12_groups_93 : decode cX12_groups 93 = .ok (.iinc 1 1, 3) := by decide +kernel
theorem dX12_groups_96 : decode cX12_groups 96 = .ok (.goto (-54), 3) := by decide +kernel
theorem dX12_groups_99 : decode cX12_groups 99 = .ok (.aload_n 0, 1) := by decide +kernel
theorem dX12_groups_100 : decode cX12_groups 100 = .ok (.iconst 1, 1) := by decide +kernel
theorem dX12_groups_101 : decode cX12_groups 101 = .ok (.putfield 375, 3) := by decide +kernel
theorem dX12_groups_104 : decode cX12_groups 104 = .ok (.iconst 0, 1) := by decide +kernel
theorem dX12_groups_105 : decode cX12_groups 105 = .ok (.istore_n 1, 1) := by decide +kernel
theorem dX12_groups_106 : decode cX12_groups 106 = .ok (.aload_n 0, 1) := by decide +kernel
theorem dX12_groups_107 : decode cX12_groups 107 = .ok (.iload_n 1, 1) := by decide +kernel
theorem dX12_groups_108 : decode cX12_groups 108 = .ok (.invokevirtual 494, 3) := by decide +kernel
theorem dX12_groups_111 : decode cX12_groups 111 = .ok (.ifCond .ne 9, 3) := by decide +kernel
theorem dX12_groups_114 : decode cX12_groups 114 = .ok (.iinc 1 1, 3) := by decide +kernel
theorem dX12_groups_117 : decode cX12_groups 117 = .ok (.goto (-11), 3) := by decide +kernel
theorem dX12_groups_120 : decode cX12_groups 120 = .ok (.iload_n 1, 1) := by decide +kernel
theorem dX12_groups_121 : decode cX12_groups 121 = .ok (.ireturn, 1) := by decide +kernel
theorem dX12_group_0 : decode cX12_group 0 = .ok (.aload_n 0, 1) := by decide +kernel
theorem dX12_group_1 : decode cX12_group 1 = .ok (.getfield 375, 3) := by decide +kernel
theorem dX12_group_4 : decode cX12_group 4 = .ok (.ifCond .eq 28, 3) := by decide +kernel
theorem dX12_group_7 : decode cX12_group 7 = .ok (.iload_n 1, 1) := by decide +kernel
theorem dX12_group_8 : decode cX12_group 8 = .ok (.i2l, 1) := by decide +kernel
theorem dX12_group_9 : decode cX12_group 9 = .ok (.lconst 0, 1) := by decide +kernel
theorem dX12_group_10 : decode cX12_group 10 = .ok (.aload_n 0, 1) := by decide +kernel
theorem dX12_group_11 : decode cX12_group 11 = .ok (.getfield 488, 3) := by decide +kernel
theorem dX12_group_14 : decode cX12_group 14 = .ok (.iconst 1, 1) := by decide +kernel
theorem dX12_group_15 : decode cX12_group 15 = .ok (.isub, 1) := by decide +kernel
theorem dX12_group_16 : decode cX12_group 16 = .ok (.i2l, 1) := by decide +kernel
theorem dX12_group_17 : decode cX12_group 17 = .ok (.invokestatic 231, 3) := by decide +kernel
theorem dX12_group_20 : decode cX12_group 20 = .ok (.ifCond .eq 12, 3) := by decide +kernel
theorem dX12_group_23 : decode cX12_group 23 = .ok (.aload_n 0, 1) := by decide +kernel
theorem dX12_group_24 : decode cX12_group 24 = .ok (.getfield 176, 3) := by decide +kernel
theorem dX12_group_27 : decode cX12_group 27 = .ok (.iload_n 1, 1) := by decide +kernel
theorem dX12_group_28 : decode cX12_group 28 = .ok (.iaload, 1) := by decide +kernel
theorem dX12_group_29 : decode cX12_group 29 = .ok (.goto 4, 3) := by decide +kernel
theorem dX12_group_32 : decode cX12_group 32 = .ok (.iconst (-1), 1) := by decide +kernel
theorem dX12_group_33 : decode cX12_group 33 = .ok (.ireturn, 1) := by decide +kernel
def v_m_isIn : List Cond := .code yX12_isIn cX12_isIn 6 (some .boolean) :: []
set_option maxHeartbeats 4000000 in
set_option maxRecDepth 100000 in
theorem m_isIn (l : Launch) (D : va_G) (y : Nat → ClassId) (sz : Nat) (v a b : Int64) : Met l yX12_isIn v_m_isIn ({ frames := 0, cells := 0, slots := 0, locals := 0 } : Room) (va_Pc [.long v, .long a, .long b] (xPre D (xT y) [] sz)) (va_Qi (fun (r : Int32) (_ : Unit) => (r = 1 ∧ a.toInt ≤ v.toInt ∧ v.toInt ≤ b.toInt) ∨ (r = 0 ∧ (v.toInt < a.toInt ∨ b.toInt < v.toInt))) (fun (u : Unit) => xB D (xT y) (va_A [] sz) []) (va_A [] sz)) 0 0 (va_A [] sz) := by
  refine x_meti (cc := cX12_isIn) (maxL := 6) (by decide) rfl (Nat.le_of_ble_eq_true rfl) ?_
  intro p e s m below meth c A H locs Q hx hb hml hown hts hr hlocks hmn hA hP hK hD hS ls hl hQ
  have hl : lv_has ls 6 [(0, .long v), (2, .long a), (4, .long b)] := hl
  refine lv_lload_n hx hb dX12_isIn_0 rfl (lv_at hl 0 rfl) ?_
  refine lv_lload_n hx hb dX12_isIn_1 rfl (lv_at hl 1 rfl) ?_
  refine W.lcmp hx hb dX12_isIn_2 ?_
  refine lv_if_lt (tgt := 17) hx hb dX12_isIn_3 (by decide) (fun c_1 => ?_) (fun c_1 => ?_)
  · refine lv_iconst (v := 0) hx hb dX12_isIn_17 (by decide) ?_
    exact x_zret (v := 0) (u := ()) hx hb hr rfl (by first | exact Or.inl ⟨rfl, (by (try dsimp only); (try simp only [lg_cmp_lt, lg_cmp_le, lg_cmp_gt, lg_cmp_ge] at *); (try simp only [x_lt, x_le, Int32.reduceToInt, x_ltL, x_leL, Int64.reduceToInt] at *); omega), (by (try dsimp only); (try simp only [lg_cmp_lt, lg_cmp_le, lg_cmp_gt, lg_cmp_ge] at *); (try simp only [x_lt, x_le, Int32.reduceToInt, x_ltL, x_leL, Int64.reduceToInt] at *); omega)⟩ | exact Or.inr ⟨rfl, (by (try dsimp only); (try simp only [lg_cmp_lt, lg_cmp_le, lg_cmp_gt, lg_cmp_ge] at *); (try simp only [x_lt, x_le, Int32.reduceToInt, x_ltL, x_leL, Int64.reduceToInt] at *); omega)⟩) hP hD hK hS [] rfl (by decide) dX12_isIn_18 hlocks hQ
  · refine lv_lload_n hx hb dX12_isIn_6 rfl (lv_at hl 0 rfl) ?_
    refine lv_lload hx hb dX12_isIn_7 (lv_at hl 2 rfl) ?_
    refine W.lcmp hx hb dX12_isIn_9 ?_
    refine lv_if_gt (tgt := 17) hx hb dX12_isIn_10 (by decide) (fun c_2 => ?_) (fun c_2 => ?_)
    · refine lv_iconst (v := 0) hx hb dX12_isIn_17 (by decide) ?_
      exact x_zret (v := 0) (u := ()) hx hb hr rfl (by first | exact Or.inl ⟨rfl, (by (try dsimp only); (try simp only [lg_cmp_lt, lg_cmp_le, lg_cmp_gt, lg_cmp_ge] at *); (try simp only [x_lt, x_le, Int32.reduceToInt, x_ltL, x_leL, Int64.reduceToInt] at *); omega), (by (try dsimp only); (try simp only [lg_cmp_lt, lg_cmp_le, lg_cmp_gt, lg_cmp_ge] at *); (try simp only [x_lt, x_le, Int32.reduceToInt, x_ltL, x_leL, Int64.reduceToInt] at *); omega)⟩ | exact Or.inr ⟨rfl, (by (try dsimp only); (try simp only [lg_cmp_lt, lg_cmp_le, lg_cmp_gt, lg_cmp_ge] at *); (try simp only [x_lt, x_le, Int32.reduceToInt, x_ltL, x_leL, Int64.reduceToInt] at *); omega)⟩) hP hD hK hS [] rfl (by decide) dX12_isIn_18 hlocks hQ
    · refine lv_iconst (v := 1) hx hb dX12_isIn_13 (by decide) ?_
      refine lv_goto (tgt := 18) hx hb dX12_isIn_14 (by decide) ?_
      exact x_zret (v := 1) (u := ()) hx hb hr rfl (by first | exact Or.inl ⟨rfl, (by (try dsimp only); (try simp only [lg_cmp_lt, lg_cmp_le, lg_cmp_gt, lg_cmp_ge] at *); (try simp only [x_lt, x_le, Int32.reduceToInt, x_ltL, x_leL, Int64.reduceToInt] at *); omega), (by (try dsimp only); (try simp only [lg_cmp_lt, lg_cmp_le, lg_cmp_gt, lg_cmp_ge] at *); (try simp only [x_lt, x_le, Int32.reduceToInt, x_ltL, x_leL, Int64.reduceToInt] at *); omega)⟩ | exact Or.inr ⟨rfl, (by (try dsimp only); (try simp only [lg_cmp_lt, lg_cmp_le, lg_cmp_gt, lg_cmp_ge] at *); (try simp only [x_lt, x_le, Int32.reduceToInt, x_ltL, x_leL, Int64.reduceToInt] at *); omega)⟩) hP hD hK hS [] rfl (by decide) dX12_isIn_18 hlocks hQ

def v_m_end : List Cond := .code yX12_end cX12_end 2 (some .boolean) :: ([.fieldLink RX12 188 "SlopeRunnerModel" "taped" "I"] ++ wsX120)
set_option maxHeartbeats 4000000 in
set_option maxRecDepth 100000 in
theorem m_end (l : Launch) (D : va_G) (y : Nat → ClassId) (sz : Nat) (h0 : Nat) (ma : Nat → Nat) (mi : Nat → Int32) (mj : Nat → Int64) (n k : Int32) : Met l yX12_end v_m_end ({ frames := 0, cells := 0, slots := 0, locals := 0 } : Room) (va_Pc [.ref h0, .int k] (xPre D (xT y) [(h0, .inr (11, mF ma (upd mi 1 n) mj))] sz)) (va_Qi (fun (r : Int32) (u : Int32) => (r = 1 ∧ 0 ≤ k.toInt ∧ k.toInt ≤ n.toInt ∧ u = k) ∨ (r = 0 ∧ (k.toInt < 0 ∨ n.toInt < k.toInt) ∧ u = n)) (fun (u : Int32) => xB D (xT y) (va_A [(h0, .inr (11, mF ma (upd mi 1 n) mj))] sz) [(h0, .inr (11, mF ma (upd mi 1 u) mj))]) (va_A [(h0, .inr (11, mF ma (upd mi 1 n) mj))] sz)) 0 0 (va_A [(h0, .inr (11, mF ma (upd mi 1 n) mj))] sz) := by
  refine x_meti (cc := cX12_end) (maxL := 2) (by decide) rfl (Nat.le_of_ble_eq_true rfl) ?_
  intro p e s m below meth c A H locs Q hx hb hml hown hts hr hlocks hmn hA hP hK hD hS ls hl hQ
  have hl : lv_has ls 2 [(0, .ref h0), (1, .int k)] := hl
  have fl188 := hts (.fieldLink RX12 188 "SlopeRunnerModel" "taped" "I") (by decide +kernel)
  have inX12 : ∀ w ∈ wsX120, w ∈ v_m_end := (fun w h => List.mem_cons_of_mem _ (List.mem_append_right _ h))
  refine lv_iload_n hx hb dX12_end_0 rfl (lv_at hl 1 rfl) ?_
  refine lv_if_lt (tgt := 12) hx hb dX12_end_1 (by decide) (fun c_1 => ?_) (fun c_1 => ?_)
  · refine lv_iconst (v := 0) hx hb dX12_end_12 (by decide) ?_
    exact x_zret (v := 0) (u := n) hx hb hr rfl (by first | exact Or.inl ⟨rfl, (by (try dsimp only); (try simp only [lg_cmp_lt, lg_cmp_le, lg_cmp_gt, lg_cmp_ge] at *); (try simp only [x_lt, x_le, Int32.reduceToInt, x_ltL, x_leL, Int64.reduceToInt] at *); omega), (by (try dsimp only); (try simp only [lg_cmp_lt, lg_cmp_le, lg_cmp_gt, lg_cmp_ge] at *); (try simp only [x_lt, x_le, Int32.reduceToInt, x_ltL, x_leL, Int64.reduceToInt] at *); omega), rfl⟩ | exact Or.inr ⟨rfl, (by (try dsimp only); (try simp only [lg_cmp_lt, lg_cmp_le, lg_cmp_gt, lg_cmp_ge] at *); (try simp only [x_lt, x_le, Int32.reduceToInt, x_ltL, x_leL, Int64.reduceToInt] at *); omega), rfl⟩) hP hD hK hS [0] rfl (by decide) dX12_end_13 hlocks hQ
  · refine lv_iload_n hx hb dX12_end_4 rfl (lv_at hl 1 rfl) ?_
    refine lv_aload_n hx hb dX12_end_5 rfl (lv_at hl 0 rfl) ?_
    refine va_get (D := D) (ci := 11) (v := .int n) (C := RX12) (T := TX12) (N := 85) hx hb hts inX12 hown hK hP 0 rfl rfl 1 (by decide) fl188 (fun _ h9 => h9) rfl dX12_end_6 ?_
    refine lv_icmp_le (tgt := 14) hx hb dX12_end_9 (by decide) (fun c_2 => ?_) (fun c_2 => ?_)
    · refine lv_aload_n hx hb dX12_end_14 rfl (lv_at hl 0 rfl) ?_
      refine lv_iload_n hx hb dX12_end_15 rfl (lv_at hl 1 rfl) ?_
      refine va_put (D := D) (ci := 11) (v := .int k) (ty := .int) (C := RX12) (T := TX12) (N := 85) hx hb hts inX12 tyX12 tyX12_ok nmX12 hown hK hP hD hS 0 rfl rfl 1 (by decide) fl188 (fun _ h9 => h9) rfl (by decide +kernel) rfl rfl (Nat.le_of_ble_eq_true rfl) dX12_end_16 (fun H locs hP hD hS => ?_)
      have hP : va_P D vwCl [(h0, .inr (11, mF ma (upd mi 1 k) mj))] H := hP
      have hD : va_D A [(h0, .inr (11, mF ma (upd mi 1 k) mj))] := hD
      refine lv_iconst (v := 1) hx hb dX12_end_19 (by decide) ?_
      exact x_zret (v := 1) (u := k) hx hb hr rfl (by first | exact Or.inl ⟨rfl, (by (try dsimp only); (try simp only [lg_cmp_lt, lg_cmp_le, lg_cmp_gt, lg_cmp_ge] at *); (try simp only [x_lt, x_le, Int32.reduceToInt, x_ltL, x_leL, Int64.reduceToInt] at *); omega), (by (try dsimp only); (try simp only [lg_cmp_lt, lg_cmp_le, lg_cmp_gt, lg_cmp_ge] at *); (try simp only [x_lt, x_le, Int32.reduceToInt, x_ltL, x_leL, Int64.reduceToInt] at *); omega), rfl⟩ | exact Or.inr ⟨rfl, (by (try dsimp only); (try simp only [lg_cmp_lt, lg_cmp_le, lg_cmp_gt, lg_cmp_ge] at *); (try simp only [x_lt, x_le, Int32.reduceToInt, x_ltL, x_leL, Int64.reduceToInt] at *); omega), rfl⟩) hP hD hK hS [0] rfl (by decide) dX12_end_20 hlocks hQ
    · refine lv_iconst (v := 0) hx hb dX12_end_12 (by decide) ?_
      exact x_zret (v := 0) (u := n) hx hb hr rfl (by first | exact Or.inl ⟨rfl, (by (try dsimp only); (try simp only [lg_cmp_lt, lg_cmp_le, lg_cmp_gt, lg_cmp_ge] at *); (try simp only [x_lt, x_le, Int32.reduceToInt, x_ltL, x_leL, Int64.reduceToInt] at *); omega), (by (try dsimp only); (try simp only [lg_cmp_lt, lg_cmp_le, lg_cmp_gt, lg_cmp_ge] at *); (try simp only [x_lt, x_le, Int32.reduceToInt, x_ltL, x_leL, Int64.reduceToInt] at *); omega), rfl⟩ | exact Or.inr ⟨rfl, (by (try dsimp only); (try simp only [lg_cmp_lt, lg_cmp_le, lg_cmp_gt, lg_cmp_ge] at *); (try simp only [x_lt, x_le, Int32.reduceToInt, x_ltL, x_leL, Int64.reduceToInt] at *); omega), rfl⟩) hP hD hK hS [0] rfl (by decide) dX12_end_13 hlocks hQ

def v_m_fault : List Cond := .code yX12_fault cX12_fault 2 (some .int) :: ([.fieldLink RX12 13 "SlopeRunnerModel" "faultPlace" "I", .fieldLink RX12 362 "SlopeRunnerModel" "fault" "I"] ++ wsX120)
set_option maxHeartbeats 4000000 in
set_option maxRecDepth 100000 in
theorem m_fault (l : Launch) (D : va_G) (y : Nat → ClassId) (sz : Nat) (h0 : Nat) (ma : Nat → Nat) (mi : Nat → Int32) (mj : Nat → Int64) (pf pp what : Int32) : Met l yX12_fault v_m_fault ({ frames := 0, cells := 0, slots := 0, locals := 0 } : Room) (va_Pc [.ref h0, .int what] (xPre D (xT y) [(h0, .inr (11, mF ma (upd (upd mi 7 pf) 8 pp) mj))] sz)) (va_Qi (fun (r : Int32) (_ : Unit) => r = if what = 0 then pf else if what = 1 then pp else -1) (fun (u : Unit) => xB D (xT y) (va_A [(h0, .inr (11, mF ma (upd (upd mi 7 pf) 8 pp) mj))] sz) [(h0, .inr (11, mF ma (upd (upd mi 7 pf) 8 pp) mj))]) (va_A [(h0, .inr (11, mF ma (upd (upd mi 7 pf) 8 pp) mj))] sz)) 0 0 (va_A [(h0, .inr (11, mF ma (upd (upd mi 7 pf) 8 pp) mj))] sz) := by
  refine x_meti (cc := cX12_fault) (maxL := 2) (by decide) rfl (Nat.le_of_ble_eq_true rfl) ?_
  intro p e s m below meth c A H locs Q hx hb hml hown hts hr hlocks hmn hA hP hK hD hS ls hl hQ
  have hl : lv_has ls 2 [(0, .ref h0), (1, .int what)] := hl
  have fl13 := hts (.fieldLink RX12 13 "SlopeRunnerModel" "faultPlace" "I") (by decide +kernel)
  have inX12 : ∀ w ∈ wsX120, w ∈ v_m_fault := (fun w h => List.mem_cons_of_mem _ (List.mem_append_right _ h))
  have fl362 := hts (.fieldLink RX12 362 "SlopeRunnerModel" "fault" "I") (by decide +kernel)
  refine lv_iload_n hx hb dX12_fault_0 rfl (lv_at hl 1 rfl) ?_
  refine lv_if_ne (tgt := 11) hx hb dX12_fault_1 (by decide) (fun c_1 => ?_) (fun c_1 => ?_)
  · refine lv_iload_n hx hb dX12_fault_11 rfl (lv_at hl 1 rfl) ?_
    refine lv_iconst (v := 1) hx hb dX12_fault_12 (by decide) ?_
    refine lv_icmp_ne (tgt := 23) hx hb dX12_fault_13 (by decide) (fun c_2 => ?_) (fun c_2 => ?_)
    · refine lv_iconst (v := (-1)) hx hb dX12_fault_23 (by decide) ?_
      exact x_iret (v := (-1)) (u := ()) hx hb hr (by first | (subst c_1; rfl) | (rw [if_neg c_1, if_pos (by assumption)]) | (rw [if_neg c_1, if_neg (by assumption)])) hP hD hK hS [0] rfl (by decide) dX12_fault_24 hlocks hQ
    · refine lv_aload_n hx hb dX12_fault_16 rfl (lv_at hl 0 rfl) ?_
      refine va_get (D := D) (ci := 11) (v := .int pp) (C := RX12) (T := TX12) (N := 85) hx hb hts inX12 hown hK hP 0 rfl rfl 8 (by decide) fl13 (fun _ h9 => h9) rfl dX12_fault_17 ?_
      refine lv_goto (tgt := 24) hx hb dX12_fault_20 (by decide) ?_
      exact x_iret (v := pp) (u := ()) hx hb hr (by first | (subst c_1; rfl) | (rw [if_neg c_1, if_pos (by assumption)]) | (rw [if_neg c_1, if_neg (by assumption)])) hP hD hK hS [0] rfl (by decide) dX12_fault_24 hlocks hQ
  · refine lv_aload_n hx hb dX12_fault_4 rfl (lv_at hl 0 rfl) ?_
    refine va_get (D := D) (ci := 11) (v := .int pf) (C := RX12) (T := TX12) (N := 85) hx hb hts inX12 hown hK hP 0 rfl rfl 7 (by decide) fl362 (fun _ h9 => h9) rfl dX12_fault_5 ?_
    refine lv_goto (tgt := 24) hx hb dX12_fault_8 (by decide) ?_
    exact x_iret (v := pf) (u := ()) hx hb hr (by first | (subst c_1; rfl) | (rw [if_neg c_1, if_pos (by assumption)]) | (rw [if_neg c_1, if_neg (by assumption)])) hP hD hK hS [0] rfl (by decide) dX12_fault_24 hlocks hQ

def v_m_feed : List Cond := .code yX12_feed cX12_feed 8 (some .int) :: ([.fieldLink RX12 188 "SlopeRunnerModel" "taped" "I", .fieldLink RX12 7 "SlopeRunnerModel" "tape" "[I"] ++ wsX120)
set_option maxHeartbeats 4000000 in
set_option maxRecDepth 100000 in
theorem m_feed (l : Launch) (D : va_G) (y : Nat → ClassId) (sz : Nat) (h0 : Nat) (ma : Nat → Nat) (mi : Nat → Int32) (mj : Nat → Int64) (n : Int32) (f : Nat → Int32) (va vb vc vd ve : Int32) (hn0 : 0 ≤ n.toInt) (hn1 : n.toInt ≤ 700) : Met l yX12_feed v_m_feed ({ frames := 0, cells := 0, slots := 0, locals := 0 } : Room) (va_Pc [.ref h0, .int va, .int vb, .int vc, .int vd, .int ve] (xPre D (xT y) [(h0, .inr (11, mF ma (upd mi 1 n) mj)), ((ma 0), .inl (y 2, 700, .inl f))] sz)) (va_Qi (fun (r : Int32) (u : Int32 × (Nat → Int32)) => (n.toInt + 20 ≤ 700 ∧ r = u.1 ∧ u.1.toInt = n.toInt + 20) ∨ (700 < n.toInt + 20 ∧ r = -1 ∧ u.1 = n)) (fun (u : Int32 × (Nat → Int32)) => xB D (xT y) (va_A [(h0, .inr (11, mF ma (upd mi 1 n) mj)), ((ma 0), .inl (y 2, 700, .inl f))] sz) [(h0, .inr (11, mF ma (upd mi 1 u.1) mj)), ((ma 0), .inl (y 2, 700, .inl u.2))]) (va_A [(h0, .inr (11, mF ma (upd mi 1 n) mj)), ((ma 0), .inl (y 2, 700, .inl f))] sz)) 0 0 (va_A [(h0, .inr (11, mF ma (upd mi 1 n) mj)), ((ma 0), .inl (y 2, 700, .inl f))] sz) := by
  refine x_meti (cc := cX12_feed) (maxL := 8) (by decide) rfl (Nat.le_of_ble_eq_true rfl) ?_
  intro p e s m below meth c A H locs Q hx hb hml hown hts hr hlocks hmn hA hP hK hD hS ls hl hQ
  have hl : lv_has ls 8 [(0, .ref h0), (1, .int va), (2, .int vb), (3, .int vc), (4, .int vd), (5, .int ve)] := hl
  have fl188 := hts (.fieldLink RX12 188 "SlopeRunnerModel" "taped" "I") (by decide +kernel)
  have inX12 : ∀ w ∈ wsX120, w ∈ v_m_feed := (fun w h => List.mem_cons_of_mem _ (List.mem_append_right _ h))
  have fl7 := hts (.fieldLink RX12 7 "SlopeRunnerModel" "tape" "[I") (by decide +kernel)
  refine lv_aload_n hx hb dX12_feed_0 rfl (lv_at hl 0 rfl) ?_
  refine va_get (D := D) (ci := 11) (v := .int n) (C := RX12) (T := TX12) (N := 85) hx hb hts inX12 hown hK hP 0 rfl rfl 1 (by decide) fl188 (fun _ h9 => h9) rfl dX12_feed_1 ?_
  refine lv_bipush (v := 20) hx hb dX12_feed_4 (by decide) ?_
  refine lv_iadd hx hb dX12_feed_6 ?_
  refine lv_topi (fun i_1 ei_1 => ?_)
  have vi_1 := x_add ei_1 (by (try dsimp only); (try simp only [lg_cmp_lt, lg_cmp_le, lg_cmp_gt, lg_cmp_ge] at *); (try simp only [x_lt, x_le, Int32.reduceToInt, x_ltL, x_leL, Int64.reduceToInt] at *); omega) (by (try dsimp only); (try simp only [lg_cmp_lt, lg_cmp_le, lg_cmp_gt, lg_cmp_ge] at *); (try simp only [x_lt, x_le, Int32.reduceToInt, x_ltL, x_leL, Int64.reduceToInt] at *); omega)
  simp only [Int32.reduceToInt] at vi_1
  refine lv_sipush (v := 700) hx hb dX12_feed_7 (by decide) ?_
  refine lv_icmp_le (tgt := 15) hx hb dX12_feed_10 (by decide) (fun c_2 => ?_) (fun c_2 => ?_)
  · refine lv_iconst (v := 0) hx hb dX12_feed_15 (by decide) ?_
    refine lv_istore (lv' := [(6, .int 0), (0, .ref h0), (1, .int va), (2, .int vb), (3, .int vc), (4, .int vd), (5, .int ve)]) hx hb dX12_feed_16 hl (by decide) rfl (fun ls hl => ?_)
    have loop : ∀ (fu : Nat) (i : Int32) (f : Nat → Int32) (n1 : Int32) (H : Heap) (locs : List Loc) (ls : Array Slot), 0 ≤ i.toInt → i.toInt ≤ 20 → n1.toInt = n.toInt + i.toInt → ((20 : Int) - i.toInt < (fu : Int)) → va_P D vwCl [(h0, .inr (11, mF ma (upd mi 1 n1) mj)), ((ma 0), .inl (y 2, 700, .inl f))] H → va_D A [(h0, .inr (11, mF ma (upd mi 1 n1) mj)), ((ma 0), .inl (y 2, 700, .inl f))] → va_S A s.heap H locs → lv_has ls 8 [(6, .int i), (0, .ref h0), (1, .int va), (2, .int vb), (3, .int vc), (4, .int vd), (5, .int ve)] → W p l e ({ frames := 0, cells := 0, slots := 0, locals := 0 } : Room) s m ([.ref h0, .int va, .int vb, .int vc, .int vd, .int ve] : List Value).toArray below meth c H locs 0 0 Q (F0 m 18 ls []) := by
      intro fu
      induction fu with
      | zero =>
        intro i f n1 H locs ls hi0 hi1 hn2 hm
        exact absurd hm (by omega)
      | succ fu ih =>
        intro i f n1 H locs ls hi0 hi1 hn2 hm hP hD hS hl
        refine lv_iload hx hb dX12_feed_18 (lv_at hl 0 rfl) ?_
        refine lv_bipush (v := 20) hx hb dX12_feed_20 (by decide) ?_
        refine lv_icmp_ge (tgt := 114) hx hb dX12_feed_22 (by decide) (fun c_3 => ?_) (fun c_3 => ?_)
        · refine lv_aload_n hx hb dX12_feed_114 rfl (lv_at hl 1 rfl) ?_
          refine va_get (D := D) (ci := 11) (v := .int n1) (C := RX12) (T := TX12) (N := 85) hx hb hts inX12 hown hK hP 0 rfl rfl 1 (by decide) fl188 (fun _ h9 => h9) rfl dX12_feed_115 ?_
          exact x_iret (v := n1) (u := (n1, f)) hx hb hr (by first | exact Or.inl ⟨(by (try dsimp only); (try simp only [lg_cmp_lt, lg_cmp_le, lg_cmp_gt, lg_cmp_ge] at *); (try simp only [x_lt, x_le, Int32.reduceToInt, x_ltL, x_leL, Int64.reduceToInt] at *); omega), rfl, (by (try dsimp only); (try simp only [lg_cmp_lt, lg_cmp_le, lg_cmp_gt, lg_cmp_ge] at *); (try simp only [x_lt, x_le, Int32.reduceToInt, x_ltL, x_leL, Int64.reduceToInt] at *); omega)⟩ | exact Or.inr ⟨(by (try dsimp only); (try simp only [lg_cmp_lt, lg_cmp_le, lg_cmp_gt, lg_cmp_ge] at *); (try simp only [x_lt, x_le, Int32.reduceToInt, x_ltL, x_leL, Int64.reduceToInt] at *); omega), rfl, rfl⟩) hP hD hK hS [0, 1] rfl (by decide) dX12_feed_118 hlocks hQ
        · refine lv_iload hx hb dX12_feed_25 (lv_at hl 0 rfl) ?_
          refine lv_iconst (v := 4) hx hb dX12_feed_27 (by decide) ?_
          refine lv_icmp_ge (tgt := 35) hx hb dX12_feed_28 (by decide) (fun c_4 => ?_) (fun c_4 => ?_)
          · refine lv_iload hx hb dX12_feed_35 (lv_at hl 0 rfl) ?_
            refine lv_bipush (v := 8) hx hb dX12_feed_37 (by decide) ?_
            refine lv_icmp_ge (tgt := 46) hx hb dX12_feed_39 (by decide) (fun c_5 => ?_) (fun c_5 => ?_)
            · refine lv_iload hx hb dX12_feed_46 (lv_at hl 0 rfl) ?_
              refine lv_bipush (v := 12) hx hb dX12_feed_48 (by decide) ?_
              refine lv_icmp_ge (tgt := 57) hx hb dX12_feed_50 (by decide) (fun c_6 => ?_) (fun c_6 => ?_)
              · refine lv_iload hx hb dX12_feed_57 (lv_at hl 0 rfl) ?_
                refine lv_bipush (v := 16) hx hb dX12_feed_59 (by decide) ?_
                refine lv_icmp_ge (tgt := 69) hx hb dX12_feed_61 (by decide) (fun c_7 => ?_) (fun c_7 => ?_)
                · refine lv_iload hx hb dX12_feed_69 (lv_at hl 6 rfl) ?_
                  refine lv_istore (lv' := [(7, .int ve), (6, .int i), (0, .ref h0), (1, .int va), (2, .int vb), (3, .int vc), (4, .int vd), (5, .int ve)]) hx hb dX12_feed_71 hl (by decide) rfl (fun ls hl => ?_)
                  refine lv_aload_n hx hb dX12_feed_73 rfl (lv_at hl 2 rfl) ?_
                  refine va_get (D := D) (ci := 11) (v := .ref (ma 0)) (C := RX12) (T := TX12) (N := 85) hx hb hts inX12 hown hK hP 0 rfl rfl 0 (by decide) fl7 (fun _ h9 => h9) rfl dX12_feed_74 ?_
                  refine lv_aload_n hx hb dX12_feed_77 rfl (lv_at hl 2 rfl) ?_
                  refine va_get (D := D) (ci := 11) (v := .int n1) (C := RX12) (T := TX12) (N := 85) hx hb hts inX12 hown hK hP 0 rfl rfl 1 (by decide) fl188 (fun _ h9 => h9) rfl dX12_feed_78 ?_
                  refine lv_iload hx hb dX12_feed_81 (lv_at hl 0 rfl) ?_
                  refine lv_bipush (v := 8) hx hb dX12_feed_83 (by decide) ?_
                  refine lv_iconst (v := 3) hx hb dX12_feed_85 (by decide) ?_
                  refine lv_iload hx hb dX12_feed_86 (lv_at hl 1 rfl) ?_
                  refine lv_iconst (v := 4) hx hb dX12_feed_88 (by decide) ?_
                  refine lv_irem hx hb dX12_feed_89 (by decide) ?_
                  refine lv_topi (fun i_8 ei_8 => ?_)
                  refine lv_isub hx hb dX12_feed_90 ?_
                  refine lv_topi (fun i_9 ei_9 => ?_)
                  refine lv_imul hx hb dX12_feed_91 ?_
                  refine lv_topi (fun i_10 ei_10 => ?_)
                  refine lv_ishr hx hb dX12_feed_92 ?_
                  refine lv_topi (fun i_11 ei_11 => ?_)
                  refine lv_sipush (v := 255) hx hb dX12_feed_93 (by decide) ?_
                  refine lv_iand hx hb dX12_feed_96 ?_
                  refine lv_topi (fun i_12 ei_12 => ?_)
                  refine va_iast hx hb hK hP hD hS 1 2 rfl rfl (x_in (by (try dsimp only); (try simp only [lg_cmp_lt, lg_cmp_le, lg_cmp_gt, lg_cmp_ge] at *); (try simp only [x_lt, x_le, Int32.reduceToInt, x_ltL, x_leL, Int64.reduceToInt] at *); omega) (by (try dsimp only); (try simp only [lg_cmp_lt, lg_cmp_le, lg_cmp_gt, lg_cmp_ge] at *); (try simp only [x_lt, x_le, Int32.reduceToInt, x_ltL, x_leL, Int64.reduceToInt] at *); omega)) dX12_feed_97 (fun H locs hP hD hS => ?_)
                  obtain ⟨f_13, ef_13⟩ : ∃ z : Nat → Int32, z = (upd f (Int32.toNatClampNeg n1) i_12) := ⟨_, rfl⟩
                  rw [← ef_13] at hP hD
                  have hP : va_P D vwCl [(h0, .inr (11, mF ma (upd mi 1 n1) mj)), ((ma 0), .inl (y 2, 700, .inl f_13))] H := hP
                  have hD : va_D A [(h0, .inr (11, mF ma (upd mi 1 n1) mj)), ((ma 0), .inl (y 2, 700, .inl f_13))] := hD
                  refine lv_aload_n hx hb dX12_feed_98 rfl (lv_at hl 2 rfl) ?_
                  refine lv_dup hx hb dX12_feed_99 rfl ?_
                  refine va_get (D := D) (ci := 11) (v := .int n1) (C := RX12) (T := TX12) (N := 85) hx hb hts inX12 hown hK hP 0 rfl rfl 1 (by decide) fl188 (fun _ h9 => h9) rfl dX12_feed_100 ?_
                  refine lv_iconst (v := 1) hx hb dX12_feed_103 (by decide) ?_
                  refine lv_iadd hx hb dX12_feed_104 ?_
                  refine lv_topi (fun i_14 ei_14 => ?_)
                  have vi_14 := x_add ei_14 (by (try dsimp only); (try simp only [lg_cmp_lt, lg_cmp_le, lg_cmp_gt, lg_cmp_ge] at *); (try simp only [x_lt, x_le, Int32.reduceToInt, x_ltL, x_leL, Int64.reduceToInt] at *); omega) (by (try dsimp only); (try simp only [lg_cmp_lt, lg_cmp_le, lg_cmp_gt, lg_cmp_ge] at *); (try simp only [x_lt, x_le, Int32.reduceToInt, x_ltL, x_leL, Int64.reduceToInt] at *); omega)
                  simp only [Int32.reduceToInt] at vi_14
                  refine va_put (D := D) (ci := 11) (v := .int i_14) (ty := .int) (C := RX12) (T := TX12) (N := 85) hx hb hts inX12 tyX12 tyX12_ok nmX12 hown hK hP hD hS 0 rfl rfl 1 (by decide) fl188 (fun _ h9 => h9) rfl (by decide +kernel) rfl rfl (Nat.le_of_ble_eq_true rfl) dX12_feed_105 (fun H locs hP hD hS => ?_)
                  have hP : va_P D vwCl [(h0, .inr (11, mF ma (upd mi 1 i_14) mj)), ((ma 0), .inl (y 2, 700, .inl f_13))] H := hP
                  have hD : va_D A [(h0, .inr (11, mF ma (upd mi 1 i_14) mj)), ((ma 0), .inl (y 2, 700, .inl f_13))] := hD
                  obtain ⟨i_15, ei_15⟩ : ∃ z : Int32, z = i + 1 := ⟨_, rfl⟩
                  refine lv_iinc (v := i_15) (lv' := [(6, .int i_15), (7, .int ve), (0, .ref h0), (1, .int va), (2, .int vb), (3, .int vc), (4, .int vd), (5, .int ve)]) hx hb dX12_feed_108 hl (k := 1) rfl (by rw [ei_15]; rfl) (by decide) rfl (fun ls hl => ?_)
                  refine lv_goto (tgt := 18) hx hb dX12_feed_111 (by decide) ?_
                  have vi_15 := x_add ei_15 (by (try dsimp only); (try simp only [lg_cmp_lt, lg_cmp_le, lg_cmp_gt, lg_cmp_ge] at *); (try simp only [x_lt, x_le, Int32.reduceToInt, x_ltL, x_leL, Int64.reduceToInt] at *); omega) (by (try dsimp only); (try simp only [lg_cmp_lt, lg_cmp_le, lg_cmp_gt, lg_cmp_ge] at *); (try simp only [x_lt, x_le, Int32.reduceToInt, x_ltL, x_leL, Int64.reduceToInt] at *); omega)
                  simp only [Int32.reduceToInt] at vi_15
                  exact ih i_15 f_13 i_14 H locs ls (by (try dsimp only); (try simp only [lg_cmp_lt, lg_cmp_le, lg_cmp_gt, lg_cmp_ge] at *); (try simp only [x_lt, x_le, Int32.reduceToInt, x_ltL, x_leL, Int64.reduceToInt] at *); omega) (by (try dsimp only); (try simp only [lg_cmp_lt, lg_cmp_le, lg_cmp_gt, lg_cmp_ge] at *); (try simp only [x_lt, x_le, Int32.reduceToInt, x_ltL, x_leL, Int64.reduceToInt] at *); omega) (by (try dsimp only); (try simp only [lg_cmp_lt, lg_cmp_le, lg_cmp_gt, lg_cmp_ge] at *); (try simp only [x_lt, x_le, Int32.reduceToInt, x_ltL, x_leL, Int64.reduceToInt] at *); omega) (by (try dsimp only); (try simp only [lg_cmp_lt, lg_cmp_le, lg_cmp_gt, lg_cmp_ge] at *); (try simp only [x_lt, x_le, Int32.reduceToInt, x_ltL, x_leL, Int64.reduceToInt] at *); omega) (x_subP hP [0, 1] rfl) (x_subD hD [0, 1] rfl (by decide)) hS (lv_sub hl [0, 2, 3, 4, 5, 6, 7] rfl)
                · refine lv_iload hx hb dX12_feed_64 (lv_at hl 5 rfl) ?_
                  refine lv_goto (tgt := 71) hx hb dX12_feed_66 (by decide) ?_
                  refine lv_istore (lv' := [(7, .int vd), (6, .int i), (0, .ref h0), (1, .int va), (2, .int vb), (3, .int vc), (4, .int vd), (5, .int ve)]) hx hb dX12_feed_71 hl (by decide) rfl (fun ls hl => ?_)
                  refine lv_aload_n hx hb dX12_feed_73 rfl (lv_at hl 2 rfl) ?_
                  refine va_get (D := D) (ci := 11) (v := .ref (ma 0)) (C := RX12) (T := TX12) (N := 85) hx hb hts inX12 hown hK hP 0 rfl rfl 0 (by decide) fl7 (fun _ h9 => h9) rfl dX12_feed_74 ?_
                  refine lv_aload_n hx hb dX12_feed_77 rfl (lv_at hl 2 rfl) ?_
                  refine va_get (D := D) (ci := 11) (v := .int n1) (C := RX12) (T := TX12) (N := 85) hx hb hts inX12 hown hK hP 0 rfl rfl 1 (by decide) fl188 (fun _ h9 => h9) rfl dX12_feed_78 ?_
                  refine lv_iload hx hb dX12_feed_81 (lv_at hl 0 rfl) ?_
                  refine lv_bipush (v := 8) hx hb dX12_feed_83 (by decide) ?_
                  refine lv_iconst (v := 3) hx hb dX12_feed_85 (by decide) ?_
                  refine lv_iload hx hb dX12_feed_86 (lv_at hl 1 rfl) ?_
                  refine lv_iconst (v := 4) hx hb dX12_feed_88 (by decide) ?_
                  refine lv_irem hx hb dX12_feed_89 (by decide) ?_
                  refine lv_topi (fun i_16 ei_16 => ?_)
                  refine lv_isub hx hb dX12_feed_90 ?_
                  refine lv_topi (fun i_17 ei_17 => ?_)
                  refine lv_imul hx hb dX12_feed_91 ?_
                  refine lv_topi (fun i_18 ei_18 => ?_)
                  refine lv_ishr hx hb dX12_feed_92 ?_
                  refine lv_topi (fun i_19 ei_19 => ?_)
                  refine lv_sipush (v := 255) hx hb dX12_feed_93 (by decide) ?_
                  refine lv_iand hx hb dX12_feed_96 ?_
                  refine lv_topi (fun i_20 ei_20 => ?_)
                  refine va_iast hx hb hK hP hD hS 1 2 rfl rfl (x_in (by (try dsimp only); (try simp only [lg_cmp_lt, lg_cmp_le, lg_cmp_gt, lg_cmp_ge] at *); (try simp only [x_lt, x_le, Int32.reduceToInt, x_ltL, x_leL, Int64.reduceToInt] at *); omega) (by (try dsimp only); (try simp only [lg_cmp_lt, lg_cmp_le, lg_cmp_gt, lg_cmp_ge] at *); (try simp only [x_lt, x_le, Int32.reduceToInt, x_ltL, x_leL, Int64.reduceToInt] at *); omega)) dX12_feed_97 (fun H locs hP hD hS => ?_)
                  obtain ⟨f_21, ef_21⟩ : ∃ z : Nat → Int32, z = (upd f (Int32.toNatClampNeg n1) i_20) := ⟨_, rfl⟩
                  rw [← ef_21] at hP hD
                  have hP : va_P D vwCl [(h0, .inr (11, mF ma (upd mi 1 n1) mj)), ((ma 0), .inl (y 2, 700, .inl f_21))] H := hP
                  have hD : va_D A [(h0, .inr (11, mF ma (upd mi 1 n1) mj)), ((ma 0), .inl (y 2, 700, .inl f_21))] := hD
                  refine lv_aload_n hx hb dX12_feed_98 rfl (lv_at hl 2 rfl) ?_
                  refine lv_dup hx hb dX12_feed_99 rfl ?_
                  refine va_get (D := D) (ci := 11) (v := .int n1) (C := RX12) (T := TX12) (N := 85) hx hb hts inX12 hown hK hP 0 rfl rfl 1 (by decide) fl188 (fun _ h9 => h9) rfl dX12_feed_100 ?_
                  refine lv_iconst (v := 1) hx hb dX12_feed_103 (by decide) ?_
                  refine lv_iadd hx hb dX12_feed_104 ?_
                  refine lv_topi (fun i_22 ei_22 => ?_)
                  have vi_22 := x_add ei_22 (by (try dsimp only); (try simp only [lg_cmp_lt, lg_cmp_le, lg_cmp_gt, lg_cmp_ge] at *); (try simp only [x_lt, x_le, Int32.reduceToInt, x_ltL, x_leL, Int64.reduceToInt] at *); omega) (by (try dsimp only); (try simp only [lg_cmp_lt, lg_cmp_le, lg_cmp_gt, lg_cmp_ge] at *); (try simp only [x_lt, x_le, Int32.reduceToInt, x_ltL, x_leL, Int64.reduceToInt] at *); omega)
                  simp only [Int32.reduceToInt] at vi_22
                  refine va_put (D := D) (ci := 11) (v := .int i_22) (ty := .int) (C := RX12) (T := TX12) (N := 85) hx hb hts inX12 tyX12 tyX12_ok nmX12 hown hK hP hD hS 0 rfl rfl 1 (by decide) fl188 (fun _ h9 => h9) rfl (by decide +kernel) rfl rfl (Nat.le_of_ble_eq_true rfl) dX12_feed_105 (fun H locs hP hD hS => ?_)
                  have hP : va_P D vwCl [(h0, .inr (11, mF ma (upd mi 1 i_22) mj)), ((ma 0), .inl (y 2, 700, .inl f_21))] H := hP
                  have hD : va_D A [(h0, .inr (11, mF ma (upd mi 1 i_22) mj)), ((ma 0), .inl (y 2, 700, .inl f_21))] := hD
                  obtain ⟨i_23, ei_23⟩ : ∃ z : Int32, z = i + 1 := ⟨_, rfl⟩
                  refine lv_iinc (v := i_23) (lv' := [(6, .int i_23), (7, .int vd), (0, .ref h0), (1, .int va), (2, .int vb), (3, .int vc), (4, .int vd), (5, .int ve)]) hx hb dX12_feed_108 hl (k := 1) rfl (by rw [ei_23]; rfl) (by decide) rfl (fun ls hl => ?_)
                  refine lv_goto (tgt := 18) hx hb dX12_feed_111 (by decide) ?_
                  have vi_23 := x_add ei_23 (by (try dsimp only); (try simp only [lg_cmp_lt, lg_cmp_le, lg_cmp_gt, lg_cmp_ge] at *); (try simp only [x_lt, x_le, Int32.reduceToInt, x_ltL, x_leL, Int64.reduceToInt] at *); omega) (by (try dsimp only); (try simp only [lg_cmp_lt, lg_cmp_le, lg_cmp_gt, lg_cmp_ge] at *); (try simp only [x_lt, x_le, Int32.reduceToInt, x_ltL, x_leL, Int64.reduceToInt] at *); omega)
                  simp only [Int32.reduceToInt] at vi_23
                  exact ih i_23 f_21 i_22 H locs ls (by (try dsimp only); (try simp only [lg_cmp_lt, lg_cmp_le, lg_cmp_gt, lg_cmp_ge] at *); (try simp only [x_lt, x_le, Int32.reduceToInt, x_ltL, x_leL, Int64.reduceToInt] at *); omega) (by (try dsimp only); (try simp only [lg_cmp_lt, lg_cmp_le, lg_cmp_gt, lg_cmp_ge] at *); (try simp only [x_lt, x_le, Int32.reduceToInt, x_ltL, x_leL, Int64.reduceToInt] at *); omega) (by (try dsimp only); (try simp only [lg_cmp_lt, lg_cmp_le, lg_cmp_gt, lg_cmp_ge] at *); (try simp only [x_lt, x_le, Int32.reduceToInt, x_ltL, x_leL, Int64.reduceToInt] at *); omega) (by (try dsimp only); (try simp only [lg_cmp_lt, lg_cmp_le, lg_cmp_gt, lg_cmp_ge] at *); (try simp only [x_lt, x_le, Int32.reduceToInt, x_ltL, x_leL, Int64.reduceToInt] at *); omega) (x_subP hP [0, 1] rfl) (x_subD hD [0, 1] rfl (by decide)) hS (lv_sub hl [0, 2, 3, 4, 5, 6, 7] rfl)
              · refine lv_iload_n hx hb dX12_feed_53 rfl (lv_at hl 4 rfl) ?_
                refine lv_goto (tgt := 71) hx hb dX12_feed_54 (by decide) ?_
                refine lv_istore (lv' := [(7, .int vc), (6, .int i), (0, .ref h0), (1, .int va), (2, .int vb), (3, .int vc), (4, .int vd), (5, .int ve)]) hx hb dX12_feed_71 hl (by decide) rfl (fun ls hl => ?_)
                refine lv_aload_n hx hb dX12_feed_73 rfl (lv_at hl 2 rfl) ?_
                refine va_get (D := D) (ci := 11) (v := .ref (ma 0)) (C := RX12) (T := TX12) (N := 85) hx hb hts inX12 hown hK hP 0 rfl rfl 0 (by decide) fl7 (fun _ h9 => h9) rfl dX12_feed_74 ?_
                refine lv_aload_n hx hb dX12_feed_77 rfl (lv_at hl 2 rfl) ?_
                refine va_get (D := D) (ci := 11) (v := .int n1) (C := RX12) (T := TX12) (N := 85) hx hb hts inX12 hown hK hP 0 rfl rfl 1 (by decide) fl188 (fun _ h9 => h9) rfl dX12_feed_78 ?_
                refine lv_iload hx hb dX12_feed_81 (lv_at hl 0 rfl) ?_
                refine lv_bipush (v := 8) hx hb dX12_feed_83 (by decide) ?_
                refine lv_iconst (v := 3) hx hb dX12_feed_85 (by decide) ?_
                refine lv_iload hx hb dX12_feed_86 (lv_at hl 1 rfl) ?_
                refine lv_iconst (v := 4) hx hb dX12_feed_88 (by decide) ?_
                refine lv_irem hx hb dX12_feed_89 (by decide) ?_
                refine lv_topi (fun i_24 ei_24 => ?_)
                refine lv_isub hx hb dX12_feed_90 ?_
                refine lv_topi (fun i_25 ei_25 => ?_)
                refine lv_imul hx hb dX12_feed_91 ?_
                refine lv_topi (fun i_26 ei_26 => ?_)
                refine lv_ishr hx hb dX12_feed_92 ?_
                refine lv_topi (fun i_27 ei_27 => ?_)
                refine lv_sipush (v := 255) hx hb dX12_feed_93 (by decide) ?_
                refine lv_iand hx hb dX12_feed_96 ?_
                refine lv_topi (fun i_28 ei_28 => ?_)
                refine va_iast hx hb hK hP hD hS 1 2 rfl rfl (x_in (by (try dsimp only); (try simp only [lg_cmp_lt, lg_cmp_le, lg_cmp_gt, lg_cmp_ge] at *); (try simp only [x_lt, x_le, Int32.reduceToInt, x_ltL, x_leL, Int64.reduceToInt] at *); omega) (by (try dsimp only); (try simp only [lg_cmp_lt, lg_cmp_le, lg_cmp_gt, lg_cmp_ge] at *); (try simp only [x_lt, x_le, Int32.reduceToInt, x_ltL, x_leL, Int64.reduceToInt] at *); omega)) dX12_feed_97 (fun H locs hP hD hS => ?_)
                obtain ⟨f_29, ef_29⟩ : ∃ z : Nat → Int32, z = (upd f (Int32.toNatClampNeg n1) i_28) := ⟨_, rfl⟩
                rw [← ef_29] at hP hD
                have hP : va_P D vwCl [(h0, .inr (11, mF ma (upd mi 1 n1) mj)), ((ma 0), .inl (y 2, 700, .inl f_29))] H := hP
                have hD : va_D A [(h0, .inr (11, mF ma (upd mi 1 n1) mj)), ((ma 0), .inl (y 2, 700, .inl f_29))] := hD
                refine lv_aload_n hx hb dX12_feed_98 rfl (lv_at hl 2 rfl) ?_
                refine lv_dup hx hb dX12_feed_99 rfl ?_
                refine va_get (D := D) (ci := 11) (v := .int n1) (C := RX12) (T := TX12) (N := 85) hx hb hts inX12 hown hK hP 0 rfl rfl 1 (by decide) fl188 (fun _ h9 => h9) rfl dX12_feed_100 ?_
                refine lv_iconst (v := 1) hx hb dX12_feed_103 (by decide) ?_
                refine lv_iadd hx hb dX12_feed_104 ?_
                refine lv_topi (fun i_30 ei_30 => ?_)
                have vi_30 := x_add ei_30 (by (try dsimp only); (try simp only [lg_cmp_lt, lg_cmp_le, lg_cmp_gt, lg_cmp_ge] at *); (try simp only [x_lt, x_le, Int32.reduceToInt, x_ltL, x_leL, Int64.reduceToInt] at *); omega) (by (try dsimp only); (try simp only [lg_cmp_lt, lg_cmp_le, lg_cmp_gt, lg_cmp_ge] at *); (try simp only [x_lt, x_le, Int32.reduceToInt, x_ltL, x_leL, Int64.reduceToInt] at *); omega)
                simp only [Int32.reduceToInt] at vi_30
                refine va_put (D := D) (ci := 11) (v := .int i_30) (ty := .int) (C := RX12) (T := TX12) (N := 85) hx hb hts inX12 tyX12 tyX12_ok nmX12 hown hK hP hD hS 0 rfl rfl 1 (by decide) fl188 (fun _ h9 => h9) rfl (by decide +kernel) rfl rfl (Nat.le_of_ble_eq_true rfl) dX12_feed_105 (fun H locs hP hD hS => ?_)
                have hP : va_P D vwCl [(h0, .inr (11, mF ma (upd mi 1 i_30) mj)), ((ma 0), .inl (y 2, 700, .inl f_29))] H := hP
                have hD : va_D A [(h0, .inr (11, mF ma (upd mi 1 i_30) mj)), ((ma 0), .inl (y 2, 700, .inl f_29))] := hD
                obtain ⟨i_31, ei_31⟩ : ∃ z : Int32, z = i + 1 := ⟨_, rfl⟩
                refine lv_iinc (v := i_31) (lv' := [(6, .int i_31), (7, .int vc), (0, .ref h0), (1, .int va), (2, .int vb), (3, .int vc), (4, .int vd), (5, .int ve)]) hx hb dX12_feed_108 hl (k := 1) rfl (by rw [ei_31]; rfl) (by decide) rfl (fun ls hl => ?_)
                refine lv_goto (tgt := 18) hx hb dX12_feed_111 (by decide) ?_
                have vi_31 := x_add ei_31 (by (try dsimp only); (try simp only [lg_cmp_lt, lg_cmp_le, lg_cmp_gt, lg_cmp_ge] at *); (try simp only [x_lt, x_le, Int32.reduceToInt, x_ltL, x_leL, Int64.reduceToInt] at *); omega) (by (try dsimp only); (try simp only [lg_cmp_lt, lg_cmp_le, lg_cmp_gt, lg_cmp_ge] at *); (try simp only [x_lt, x_le, Int32.reduceToInt, x_ltL, x_leL, Int64.reduceToInt] at *); omega)
                simp only [Int32.reduceToInt] at vi_31
                exact ih i_31 f_29 i_30 H locs ls (by (try dsimp only); (try simp only [lg_cmp_lt, lg_cmp_le, lg_cmp_gt, lg_cmp_ge] at *); (try simp only [x_lt, x_le, Int32.reduceToInt, x_ltL, x_leL, Int64.reduceToInt] at *); omega) (by (try dsimp only); (try simp only [lg_cmp_lt, lg_cmp_le, lg_cmp_gt, lg_cmp_ge] at *); (try simp only [x_lt, x_le, Int32.reduceToInt, x_ltL, x_leL, Int64.reduceToInt] at *); omega) (by (try dsimp only); (try simp only [lg_cmp_lt, lg_cmp_le, lg_cmp_gt, lg_cmp_ge] at *); (try simp only [x_lt, x_le, Int32.reduceToInt, x_ltL, x_leL, Int64.reduceToInt] at *); omega) (by (try dsimp only); (try simp only [lg_cmp_lt, lg_cmp_le, lg_cmp_gt, lg_cmp_ge] at *); (try simp only [x_lt, x_le, Int32.reduceToInt, x_ltL, x_leL, Int64.reduceToInt] at *); omega) (x_subP hP [0, 1] rfl) (x_subD hD [0, 1] rfl (by decide)) hS (lv_sub hl [0, 2, 3, 4, 5, 6, 7] rfl)
            · refine lv_iload_n hx hb dX12_feed_42 rfl (lv_at hl 3 rfl) ?_
              refine lv_goto (tgt := 71) hx hb dX12_feed_43 (by decide) ?_
              refine lv_istore (lv' := [(7, .int vb), (6, .int i), (0, .ref h0), (1, .int va), (2, .int vb), (3, .int vc), (4, .int vd), (5, .int ve)]) hx hb dX12_feed_71 hl (by decide) rfl (fun ls hl => ?_)
              refine lv_aload_n hx hb dX12_feed_73 rfl (lv_at hl 2 rfl) ?_
              refine va_get (D := D) (ci := 11) (v := .ref (ma 0)) (C := RX12) (T := TX12) (N := 85) hx hb hts inX12 hown hK hP 0 rfl rfl 0 (by decide) fl7 (fun _ h9 => h9) rfl dX12_feed_74 ?_
              refine lv_aload_n hx hb dX12_feed_77 rfl (lv_at hl 2 rfl) ?_
              refine va_get (D := D) (ci := 11) (v := .int n1) (C := RX12) (T := TX12) (N := 85) hx hb hts inX12 hown hK hP 0 rfl rfl 1 (by decide) fl188 (fun _ h9 => h9) rfl dX12_feed_78 ?_
              refine lv_iload hx hb dX12_feed_81 (lv_at hl 0 rfl) ?_
              refine lv_bipush (v := 8) hx hb dX12_feed_83 (by decide) ?_
              refine lv_iconst (v := 3) hx hb dX12_feed_85 (by decide) ?_
              refine lv_iload hx hb dX12_feed_86 (lv_at hl 1 rfl) ?_
              refine lv_iconst (v := 4) hx hb dX12_feed_88 (by decide) ?_
              refine lv_irem hx hb dX12_feed_89 (by decide) ?_
              refine lv_topi (fun i_32 ei_32 => ?_)
              refine lv_isub hx hb dX12_feed_90 ?_
              refine lv_topi (fun i_33 ei_33 => ?_)
              refine lv_imul hx hb dX12_feed_91 ?_
              refine lv_topi (fun i_34 ei_34 => ?_)
              refine lv_ishr hx hb dX12_feed_92 ?_
              refine lv_topi (fun i_35 ei_35 => ?_)
              refine lv_sipush (v := 255) hx hb dX12_feed_93 (by decide) ?_
              refine lv_iand hx hb dX12_feed_96 ?_
              refine lv_topi (fun i_36 ei_36 => ?_)
              refine va_iast hx hb hK hP hD hS 1 2 rfl rfl (x_in (by (try dsimp only); (try simp only [lg_cmp_lt, lg_cmp_le, lg_cmp_gt, lg_cmp_ge] at *); (try simp only [x_lt, x_le, Int32.reduceToInt, x_ltL, x_leL, Int64.reduceToInt] at *); omega) (by (try dsimp only); (try simp only [lg_cmp_lt, lg_cmp_le, lg_cmp_gt, lg_cmp_ge] at *); (try simp only [x_lt, x_le, Int32.reduceToInt, x_ltL, x_leL, Int64.reduceToInt] at *); omega)) dX12_feed_97 (fun H locs hP hD hS => ?_)
              obtain ⟨f_37, ef_37⟩ : ∃ z : Nat → Int32, z = (upd f (Int32.toNatClampNeg n1) i_36) := ⟨_, rfl⟩
              rw [← ef_37] at hP hD
              have hP : va_P D vwCl [(h0, .inr (11, mF ma (upd mi 1 n1) mj)), ((ma 0), .inl (y 2, 700, .inl f_37))] H := hP
              have hD : va_D A [(h0, .inr (11, mF ma (upd mi 1 n1) mj)), ((ma 0), .inl (y 2, 700, .inl f_37))] := hD
              refine lv_aload_n hx hb dX12_feed_98 rfl (lv_at hl 2 rfl) ?_
              refine lv_dup hx hb dX12_feed_99 rfl ?_
              refine va_get (D := D) (ci := 11) (v := .int n1) (C := RX12) (T := TX12) (N := 85) hx hb hts inX12 hown hK hP 0 rfl rfl 1 (by decide) fl188 (fun _ h9 => h9) rfl dX12_feed_100 ?_
              refine lv_iconst (v := 1) hx hb dX12_feed_103 (by decide) ?_
              refine lv_iadd hx hb dX12_feed_104 ?_
              refine lv_topi (fun i_38 ei_38 => ?_)
              have vi_38 := x_add ei_38 (by (try dsimp only); (try simp only [lg_cmp_lt, lg_cmp_le, lg_cmp_gt, lg_cmp_ge] at *); (try simp only [x_lt, x_le, Int32.reduceToInt, x_ltL, x_leL, Int64.reduceToInt] at *); omega) (by (try dsimp only); (try simp only [lg_cmp_lt, lg_cmp_le, lg_cmp_gt, lg_cmp_ge] at *); (try simp only [x_lt, x_le, Int32.reduceToInt, x_ltL, x_leL, Int64.reduceToInt] at *); omega)
              simp only [Int32.reduceToInt] at vi_38
              refine va_put (D := D) (ci := 11) (v := .int i_38) (ty := .int) (C := RX12) (T := TX12) (N := 85) hx hb hts inX12 tyX12 tyX12_ok nmX12 hown hK hP hD hS 0 rfl rfl 1 (by decide) fl188 (fun _ h9 => h9) rfl (by decide +kernel) rfl rfl (Nat.le_of_ble_eq_true rfl) dX12_feed_105 (fun H locs hP hD hS => ?_)
              have hP : va_P D vwCl [(h0, .inr (11, mF ma (upd mi 1 i_38) mj)), ((ma 0), .inl (y 2, 700, .inl f_37))] H := hP
              have hD : va_D A [(h0, .inr (11, mF ma (upd mi 1 i_38) mj)), ((ma 0), .inl (y 2, 700, .inl f_37))] := hD
              obtain ⟨i_39, ei_39⟩ : ∃ z : Int32, z = i + 1 := ⟨_, rfl⟩
              refine lv_iinc (v := i_39) (lv' := [(6, .int i_39), (7, .int vb), (0, .ref h0), (1, .int va), (2, .int vb), (3, .int vc), (4, .int vd), (5, .int ve)]) hx hb dX12_feed_108 hl (k := 1) rfl (by rw [ei_39]; rfl) (by decide) rfl (fun ls hl => ?_)
              refine lv_goto (tgt := 18) hx hb dX12_feed_111 (by decide) ?_
              have vi_39 := x_add ei_39 (by (try dsimp only); (try simp only [lg_cmp_lt, lg_cmp_le, lg_cmp_gt, lg_cmp_ge] at *); (try simp only [x_lt, x_le, Int32.reduceToInt, x_ltL, x_leL, Int64.reduceToInt] at *); omega) (by (try dsimp only); (try simp only [lg_cmp_lt, lg_cmp_le, lg_cmp_gt, lg_cmp_ge] at *); (try simp only [x_lt, x_le, Int32.reduceToInt, x_ltL, x_leL, Int64.reduceToInt] at *); omega)
              simp only [Int32.reduceToInt] at vi_39
              exact ih i_39 f_37 i_38 H locs ls (by (try dsimp only); (try simp only [lg_cmp_lt, lg_cmp_le, lg_cmp_gt, lg_cmp_ge] at *); (try simp only [x_lt, x_le, Int32.reduceToInt, x_ltL, x_leL, Int64.reduceToInt] at *); omega) (by (try dsimp only); (try simp only [lg_cmp_lt, lg_cmp_le, lg_cmp_gt, lg_cmp_ge] at *); (try simp only [x_lt, x_le, Int32.reduceToInt, x_ltL, x_leL, Int64.reduceToInt] at *); omega) (by (try dsimp only); (try simp only [lg_cmp_lt, lg_cmp_le, lg_cmp_gt, lg_cmp_ge] at *); (try simp only [x_lt, x_le, Int32.reduceToInt, x_ltL, x_leL, Int64.reduceToInt] at *); omega) (by (try dsimp only); (try simp only [lg_cmp_lt, lg_cmp_le, lg_cmp_gt, lg_cmp_ge] at *); (try simp only [x_lt, x_le, Int32.reduceToInt, x_ltL, x_leL, Int64.reduceToInt] at *); omega) (x_subP hP [0, 1] rfl) (x_subD hD [0, 1] rfl (by decide)) hS (lv_sub hl [0, 2, 3, 4, 5, 6, 7] rfl)
          · refine lv_iload_n hx hb dX12_feed_31 rfl (lv_at hl 2 rfl) ?_
            refine lv_goto (tgt := 71) hx hb dX12_feed_32 (by decide) ?_
            refine lv_istore (lv' := [(7, .int va), (6, .int i), (0, .ref h0), (1, .int va), (2, .int vb), (3, .int vc), (4, .int vd), (5, .int ve)]) hx hb dX12_feed_71 hl (by decide) rfl (fun ls hl => ?_)
            refine lv_aload_n hx hb dX12_feed_73 rfl (lv_at hl 2 rfl) ?_
            refine va_get (D := D) (ci := 11) (v := .ref (ma 0)) (C := RX12) (T := TX12) (N := 85) hx hb hts inX12 hown hK hP 0 rfl rfl 0 (by decide) fl7 (fun _ h9 => h9) rfl dX12_feed_74 ?_
            refine lv_aload_n hx hb dX12_feed_77 rfl (lv_at hl 2 rfl) ?_
            refine va_get (D := D) (ci := 11) (v := .int n1) (C := RX12) (T := TX12) (N := 85) hx hb hts inX12 hown hK hP 0 rfl rfl 1 (by decide) fl188 (fun _ h9 => h9) rfl dX12_feed_78 ?_
            refine lv_iload hx hb dX12_feed_81 (lv_at hl 0 rfl) ?_
            refine lv_bipush (v := 8) hx hb dX12_feed_83 (by decide) ?_
            refine lv_iconst (v := 3) hx hb dX12_feed_85 (by decide) ?_
            refine lv_iload hx hb dX12_feed_86 (lv_at hl 1 rfl) ?_
            refine lv_iconst (v := 4) hx hb dX12_feed_88 (by decide) ?_
            refine lv_irem hx hb dX12_feed_89 (by decide) ?_
            refine lv_topi (fun i_40 ei_40 => ?_)
            refine lv_isub hx hb dX12_feed_90 ?_
            refine lv_topi (fun i_41 ei_41 => ?_)
            refine lv_imul hx hb dX12_feed_91 ?_
            refine lv_topi (fun i_42 ei_42 => ?_)
            refine lv_ishr hx hb dX12_feed_92 ?_
            refine lv_topi (fun i_43 ei_43 => ?_)
            refine lv_sipush (v := 255) hx hb dX12_feed_93 (by decide) ?_
            refine lv_iand hx hb dX12_feed_96 ?_
            refine lv_topi (fun i_44 ei_44 => ?_)
            refine va_iast hx hb hK hP hD hS 1 2 rfl rfl (x_in (by (try dsimp only); (try simp only [lg_cmp_lt, lg_cmp_le, lg_cmp_gt, lg_cmp_ge] at *); (try simp only [x_lt, x_le, Int32.reduceToInt, x_ltL, x_leL, Int64.reduceToInt] at *); omega) (by (try dsimp only); (try simp only [lg_cmp_lt, lg_cmp_le, lg_cmp_gt, lg_cmp_ge] at *); (try simp only [x_lt, x_le, Int32.reduceToInt, x_ltL, x_leL, Int64.reduceToInt] at *); omega)) dX12_feed_97 (fun H locs hP hD hS => ?_)
            obtain ⟨f_45, ef_45⟩ : ∃ z : Nat → Int32, z = (upd f (Int32.toNatClampNeg n1) i_44) := ⟨_, rfl⟩
            rw [← ef_45] at hP hD
            have hP : va_P D vwCl [(h0, .inr (11, mF ma (upd mi 1 n1) mj)), ((ma 0), .inl (y 2, 700, .inl f_45))] H := hP
            have hD : va_D A [(h0, .inr (11, mF ma (upd mi 1 n1) mj)), ((ma 0), .inl (y 2, 700, .inl f_45))] := hD
            refine lv_aload_n hx hb dX12_feed_98 rfl (lv_at hl 2 rfl) ?_
            refine lv_dup hx hb dX12_feed_99 rfl ?_
            refine va_get (D := D) (ci := 11) (v := .int n1) (C := RX12) (T := TX12) (N := 85) hx hb hts inX12 hown hK hP 0 rfl rfl 1 (by decide) fl188 (fun _ h9 => h9) rfl dX12_feed_100 ?_
            refine lv_iconst (v := 1) hx hb dX12_feed_103 (by decide) ?_
            refine lv_iadd hx hb dX12_feed_104 ?_
            refine lv_topi (fun i_46 ei_46 => ?_)
            have vi_46 := x_add ei_46 (by (try dsimp only); (try simp only [lg_cmp_lt, lg_cmp_le, lg_cmp_gt, lg_cmp_ge] at *); (try simp only [x_lt, x_le, Int32.reduceToInt, x_ltL, x_leL, Int64.reduceToInt] at *); omega) (by (try dsimp only); (try simp only [lg_cmp_lt, lg_cmp_le, lg_cmp_gt, lg_cmp_ge] at *); (try simp only [x_lt, x_le, Int32.reduceToInt, x_ltL, x_leL, Int64.reduceToInt] at *); omega)
            simp only [Int32.reduceToInt] at vi_46
            refine va_put (D := D) (ci := 11) (v := .int i_46) (ty := .int) (C := RX12) (T := TX12) (N := 85) hx hb hts inX12 tyX12 tyX12_ok nmX12 hown hK hP hD hS 0 rfl rfl 1 (by decide) fl188 (fun _ h9 => h9) rfl (by decide +kernel) rfl rfl (Nat.le_of_ble_eq_true rfl) dX12_feed_105 (fun H locs hP hD hS => ?_)
            have hP : va_P D vwCl [(h0, .inr (11, mF ma (upd mi 1 i_46) mj)), ((ma 0), .inl (y 2, 700, .inl f_45))] H := hP
            have hD : va_D A [(h0, .inr (11, mF ma (upd mi 1 i_46) mj)), ((ma 0), .inl (y 2, 700, .inl f_45))] := hD
            obtain ⟨i_47, ei_47⟩ : ∃ z : Int32, z = i + 1 := ⟨_, rfl⟩
            refine lv_iinc (v := i_47) (lv' := [(6, .int i_47), (7, .int va), (0, .ref h0), (1, .int va), (2, .int vb), (3, .int vc), (4, .int vd), (5, .int ve)]) hx hb dX12_feed_108 hl (k := 1) rfl (by rw [ei_47]; rfl) (by decide) rfl (fun ls hl => ?_)
            refine lv_goto (tgt := 18) hx hb dX12_feed_111 (by decide) ?_
            have vi_47 := x_add ei_47 (by (try dsimp only); (try simp only [lg_cmp_lt, lg_cmp_le, lg_cmp_gt, lg_cmp_ge] at *); (try simp only [x_lt, x_le, Int32.reduceToInt, x_ltL, x_leL, Int64.reduceToInt] at *); omega) (by (try dsimp only); (try simp only [lg_cmp_lt, lg_cmp_le, lg_cmp_gt, lg_cmp_ge] at *); (try simp only [x_lt, x_le, Int32.reduceToInt, x_ltL, x_leL, Int64.reduceToInt] at *); omega)
            simp only [Int32.reduceToInt] at vi_47
            exact ih i_47 f_45 i_46 H locs ls (by (try dsimp only); (try simp only [lg_cmp_lt, lg_cmp_le, lg_cmp_gt, lg_cmp_ge] at *); (try simp only [x_lt, x_le, Int32.reduceToInt, x_ltL, x_leL, Int64.reduceToInt] at *); omega) (by (try dsimp only); (try simp only [lg_cmp_lt, lg_cmp_le, lg_cmp_gt, lg_cmp_ge] at *); (try simp only [x_lt, x_le, Int32.reduceToInt, x_ltL, x_leL, Int64.reduceToInt] at *); omega) (by (try dsimp only); (try simp only [lg_cmp_lt, lg_cmp_le, lg_cmp_gt, lg_cmp_ge] at *); (try simp only [x_lt, x_le, Int32.reduceToInt, x_ltL, x_leL, Int64.reduceToInt] at *); omega) (by (try dsimp only); (try simp only [lg_cmp_lt, lg_cmp_le, lg_cmp_gt, lg_cmp_ge] at *); (try simp only [x_lt, x_le, Int32.reduceToInt, x_ltL, x_leL, Int64.reduceToInt] at *); omega) (x_subP hP [0, 1] rfl) (x_subD hD [0, 1] rfl (by decide)) hS (lv_sub hl [0, 2, 3, 4, 5, 6, 7] rfl)
    exact loop 21 0 f n H locs ls (by decide) (by decide) (by simp only [Int32.reduceToInt]; omega) (by (try dsimp only); (try simp only [lg_cmp_lt, lg_cmp_le, lg_cmp_gt, lg_cmp_ge] at *); (try simp only [x_lt, x_le, Int32.reduceToInt, x_ltL, x_leL, Int64.reduceToInt] at *); omega) (x_subP hP [0, 1] rfl) (x_subD hD [0, 1] rfl (by decide)) hS (lv_sub hl [0, 1, 2, 3, 4, 5, 6] rfl)
  · refine lv_iconst (v := (-1)) hx hb dX12_feed_13 (by decide) ?_
    exact x_iret (v := (-1)) (u := (n, f)) hx hb hr (by first | exact Or.inl ⟨(by (try dsimp only); (try simp only [lg_cmp_lt, lg_cmp_le, lg_cmp_gt, lg_cmp_ge] at *); (try simp only [x_lt, x_le, Int32.reduceToInt, x_ltL, x_leL, Int64.reduceToInt] at *); omega), rfl, (by (try dsimp only); (try simp only [lg_cmp_lt, lg_cmp_le, lg_cmp_gt, lg_cmp_ge] at *); (try simp only [x_lt, x_le, Int32.reduceToInt, x_ltL, x_leL, Int64.reduceToInt] at *); omega)⟩ | exact Or.inr ⟨(by (try dsimp only); (try simp only [lg_cmp_lt, lg_cmp_le, lg_cmp_gt, lg_cmp_ge] at *); (try simp only [x_lt, x_le, Int32.reduceToInt, x_ltL, x_leL, Int64.reduceToInt] at *); omega), rfl, rfl⟩) hP hD hK hS [0, 1] rfl (by decide) dX12_feed_14 hlocks hQ

def v_m_undo0 : List Cond := .code yX12_undo cX12_undo 1 (some .boolean) :: ([.fieldLink RX12 365 "SlopeRunnerModel" "done" "I"] ++ wsX120)
set_option maxHeartbeats 4000000 in
set_option maxRecDepth 100000 in
theorem m_undo0 (l : Launch) (D : va_G) (y : Nat → ClassId) (sz : Nat) (h0 : Nat) (ma : Nat → Nat) (mi : Nat → Int32) (mj : Nat → Int64) : Met l yX12_undo v_m_undo0 ({ frames := 0, cells := 0, slots := 0, locals := 0 } : Room) (va_Pc [.ref h0] (xPre D (xT y) [(h0, .inr (11, mF ma (upd mi 47 0) mj))] sz)) (va_Qi (fun (r : Int32) (_ : Unit) => r = 0) (fun (u : Unit) => xB D (xT y) (va_A [(h0, .inr (11, mF ma (upd mi 47 0) mj))] sz) [(h0, .inr (11, mF ma (upd mi 47 0) mj))]) (va_A [(h0, .inr (11, mF ma (upd mi 47 0) mj))] sz)) 0 0 (va_A [(h0, .inr (11, mF ma (upd mi 47 0) mj))] sz) := by
  refine x_meti (cc := cX12_undo) (maxL := 1) (by decide) rfl (Nat.le_of_ble_eq_true rfl) ?_
  intro p e s m below meth c A H locs Q hx hb hml hown hts hr hlocks hmn hA hP hK hD hS ls hl hQ
  have hl : lv_has ls 1 [(0, .ref h0)] := hl
  have fl365 := hts (.fieldLink RX12 365 "SlopeRunnerModel" "done" "I") (by decide +kernel)
  have inX12 : ∀ w ∈ wsX120, w ∈ v_m_undo0 := (fun w h => List.mem_cons_of_mem _ (List.mem_append_right _ h))
  refine lv_aload_n hx hb dX12_undo_0 rfl (lv_at hl 0 rfl) ?_
  refine va_get (D := D) (ci := 11) (v := .int 0) (C := RX12) (T := TX12) (N := 85) hx hb hts inX12 hown hK hP 0 rfl rfl 47 (by decide) fl365 (fun _ h9 => h9) rfl dX12_undo_1 ?_
  refine lv_if_ne (tgt := 9) hx hb dX12_undo_4 (by decide) (fun c_1 => ?_) (fun c_1 => ?_)
  · exact absurd (by decide) c_1
  · refine lv_iconst (v := 0) hx hb dX12_undo_7 (by decide) ?_
    exact x_zret (v := 0) (u := ()) hx hb hr rfl rfl hP hD hK hS [0] rfl (by decide) dX12_undo_8 hlocks hQ

def v_m_redo0 : List Cond := .code yX12_redo cX12_redo 1 (some .boolean) :: ([.fieldLink RX12 365 "SlopeRunnerModel" "done" "I", .fieldLink RX12 368 "SlopeRunnerModel" "doneAll" "I"] ++ wsX120)
set_option maxHeartbeats 4000000 in
set_option maxRecDepth 100000 in
theorem m_redo0 (l : Launch) (D : va_G) (y : Nat → ClassId) (sz : Nat) (h0 : Nat) (ma : Nat → Nat) (mi : Nat → Int32) (mj : Nat → Int64) : Met l yX12_redo v_m_redo0 ({ frames := 0, cells := 0, slots := 0, locals := 0 } : Room) (va_Pc [.ref h0] (xPre D (xT y) [(h0, .inr (11, mF ma (upd (upd mi 47 0) 48 0) mj))] sz)) (va_Qi (fun (r : Int32) (_ : Unit) => r = 0) (fun (u : Unit) => xB D (xT y) (va_A [(h0, .inr (11, mF ma (upd (upd mi 47 0) 48 0) mj))] sz) [(h0, .inr (11, mF ma (upd (upd mi 47 0) 48 0) mj))]) (va_A [(h0, .inr (11, mF ma (upd (upd mi 47 0) 48 0) mj))] sz)) 0 0 (va_A [(h0, .inr (11, mF ma (upd (upd mi 47 0) 48 0) mj))] sz) := by
  refine x_meti (cc := cX12_redo) (maxL := 1) (by decide) rfl (Nat.le_of_ble_eq_true rfl) ?_
  intro p e s m below meth c A H locs Q hx hb hml hown hts hr hlocks hmn hA hP hK hD hS ls hl hQ
  have hl : lv_has ls 1 [(0, .ref h0)] := hl
  have fl365 := hts (.fieldLink RX12 365 "SlopeRunnerModel" "done" "I") (by decide +kernel)
  have inX12 : ∀ w ∈ wsX120, w ∈ v_m_redo0 := (fun w h => List.mem_cons_of_mem _ (List.mem_append_right _ h))
  have fl368 := hts (.fieldLink RX12 368 "SlopeRunnerModel" "doneAll" "I") (by decide +kernel)
  refine lv_aload_n hx hb dX12_redo_0 rfl (lv_at hl 0 rfl) ?_
  refine va_get (D := D) (ci := 11) (v := .int 0) (C := RX12) (T := TX12) (N := 85) hx hb hts inX12 hown hK hP 0 rfl rfl 47 (by decide) fl365 (fun _ h9 => h9) rfl dX12_redo_1 ?_
  refine lv_aload_n hx hb dX12_redo_4 rfl (lv_at hl 0 rfl) ?_
  refine va_get (D := D) (ci := 11) (v := .int 0) (C := RX12) (T := TX12) (N := 85) hx hb hts inX12 hown hK hP 0 rfl rfl 48 (by decide) fl368 (fun _ h9 => h9) rfl dX12_redo_5 ?_
  refine lv_icmp_ne (tgt := 13) hx hb dX12_redo_8 (by decide) (fun c_1 => ?_) (fun c_1 => ?_)
  · exact absurd (by decide) c_1
  · refine lv_iconst (v := 0) hx hb dX12_redo_11 (by decide) ?_
    exact x_zret (v := 0) (u := ()) hx hb hr rfl rfl hP hD hK hS [0] rfl (by decide) dX12_redo_12 hlocks hQ

def v_m_has0 : List Cond := .code yX12_has cX12_has 2 (some .int) :: ([.fieldLink RX12 60 "SlopeRunnerModel" "has" "[I", .constantLong RX12 378 4] ++ ((wsS RX12 231 yX12_isIn v_m_isIn) ++ wsX120))
theorem g_m_has0_0 : GoodIn v_m_has0 (wsS RX12 231 yX12_isIn v_m_isIn) := goodIn_sub (fun w h => List.mem_cons_of_mem _ (List.mem_append_right _ (List.mem_append_left _ h))) (by decide +kernel)
set_option maxHeartbeats 4000000 in
set_option maxRecDepth 100000 in
theorem m_has0 (l : Launch) (D : va_G) (y : Nat → ClassId) (sz : Nat) (h0 : Nat) (ma : Nat → Nat) (mi : Nat → Int32) (mj : Nat → Int64) (what : Int32) : Met l yX12_has v_m_has0 ({ frames := 1, cells := 0, slots := 0, locals := 25 } : Room) (va_Pc [.ref h0, .int what] (xPre D (xT y) [(h0, .inr (11, mF ma mi mj)), ((ma 24), .inl (y 2, 10, .inl (fun _ => 0)))] sz)) (va_Qi (fun (r : Int32) (_ : Unit) => (0 ≤ what.toInt ∧ what.toInt ≤ 4 ∧ r = 0) ∨ ((what.toInt < 0 ∨ 4 < what.toInt) ∧ r = -1)) (fun (u : Unit) => xB D (xT y) (va_A [(h0, .inr (11, mF ma mi mj)), ((ma 24), .inl (y 2, 10, .inl (fun _ => 0)))] sz) [(h0, .inr (11, mF ma mi mj)), ((ma 24), .inl (y 2, 10, .inl (fun _ => 0)))]) (va_A [(h0, .inr (11, mF ma mi mj)), ((ma 24), .inl (y 2, 10, .inl (fun _ => 0)))] sz)) 0 0 (va_A [(h0, .inr (11, mF ma mi mj)), ((ma 24), .inl (y 2, 10, .inl (fun _ => 0)))] sz) := by
  refine x_meti (cc := cX12_has) (maxL := 2) (by decide) rfl (Nat.le_of_ble_eq_true rfl) ?_
  intro p e s m below meth c A H locs Q hx hb hml hown hts hr hlocks hmn hA hP hK hD hS ls hl hQ
  have hl : lv_has ls 2 [(0, .ref h0), (1, .int what)] := hl
  have fl60 := hts (.fieldLink RX12 60 "SlopeRunnerModel" "has" "[I") (by decide +kernel)
  have inX12 : ∀ w ∈ wsX120, w ∈ v_m_has0 := (fun w h => List.mem_cons_of_mem _ (List.mem_append_right _ (List.mem_append_right _ h)))
  refine lv_iload_n hx hb dX12_has_0 rfl (lv_at hl 1 rfl) ?_
  refine lv_i2l hx hb dX12_has_1 rfl ?_
  refine lv_topl (fun j_1 ej_1 => ?_)
  have vj_1 : j_1.toInt = what.toInt := by rw [ej_1]; exact Int32.toInt_toInt64 _
  refine lv_lconst (v := 0) hx hb dX12_has_2 (by decide) ?_
  refine lv_ldc2 (v := 4) hx hb hown (hts (.constantLong RX12 378 4) (by decide +kernel)) dX12_has_3 ?_
  refine x_calli (w1 := fun (u : Unit) => []) (wr := [(h0, .inr (11, mF ma mi mj)), ((ma 24), .inl (y 2, 10, .inl (fun _ => 0)))]) (ws' := fun (u : Unit) => [(h0, .inr (11, mF ma mi mj)), ((ma 24), .inl (y 2, 10, .inl (fun _ => 0)))]) (va_runS (As := [.long j_1, .long 0, .long 4]) (rest := []) ⟨hx, hb, hml, hown, hts⟩ (m_isIn l D y H.size j_1 0 4) (cwS 3 hts g_m_has0_0 rfl rfl rfl (by decide +kernel) ⟨Nat.le_of_ble_eq_true rfl, Nat.le_of_ble_eq_true rfl⟩) (x_preS hK (x_subP hP [] rfl) (x_subD hD [] rfl (by decide))) rfl rfl hl.1 rfl (lv_room (Nat.le_of_ble_eq_true rfl)) dX12_has_6 ⟨Nat.le_of_ble_eq_true rfl, Nat.le_of_ble_eq_true rfl⟩) hP hD hS hA [] [0, 1] rfl rfl (by decide) (by decide) [0, 1] (fun _ => rfl) (by decide) (fun r_2 u H locs hw hP hD hS => ?_)
  try dsimp only at hw
  have hP : va_P D vwCl [(h0, .inr (11, mF ma mi mj)), ((ma 24), .inl (y 2, 10, .inl (fun _ => 0)))] H := hP
  have hD : va_D A [(h0, .inr (11, mF ma mi mj)), ((ma 24), .inl (y 2, 10, .inl (fun _ => 0)))] := hD
  rcases hw with ⟨rfl, g_3⟩ | ⟨rfl, g_3⟩
  · refine lv_if_eq (tgt := 23) hx hb dX12_has_9 (by decide) (fun c_4 => ?_) (fun c_4 => ?_)
    · exact absurd c_4 (by decide)
    · refine lv_aload_n hx hb dX12_has_12 rfl (lv_at hl 0 rfl) ?_
      refine va_get (D := D) (ci := 11) (v := .ref (ma 24)) (C := RX12) (T := TX12) (N := 85) hx hb hts inX12 hown hK hP 0 rfl rfl 24 (by decide) fl60 (fun _ h9 => h9) rfl dX12_has_13 ?_
      refine lv_iconst (v := 5) hx hb dX12_has_16 (by decide) ?_
      refine lv_iload_n hx hb dX12_has_17 rfl (lv_at hl 1 rfl) ?_
      refine lv_iadd hx hb dX12_has_18 ?_
      refine lv_topi (fun i_5 ei_5 => ?_)
      have vi_5 := x_add ei_5 (by (try dsimp only); (try simp only [lg_cmp_lt, lg_cmp_le, lg_cmp_gt, lg_cmp_ge] at *); (try simp only [x_lt, x_le, Int32.reduceToInt, x_ltL, x_leL, Int64.reduceToInt] at *); omega) (by (try dsimp only); (try simp only [lg_cmp_lt, lg_cmp_le, lg_cmp_gt, lg_cmp_ge] at *); (try simp only [x_lt, x_le, Int32.reduceToInt, x_ltL, x_leL, Int64.reduceToInt] at *); omega)
      simp only [Int32.reduceToInt] at vi_5
      refine va_iald hx hb hK hP 1 2 rfl rfl (x_in (by (try dsimp only); (try simp only [lg_cmp_lt, lg_cmp_le, lg_cmp_gt, lg_cmp_ge] at *); (try simp only [x_lt, x_le, Int32.reduceToInt, x_ltL, x_leL, Int64.reduceToInt] at *); omega) (by (try dsimp only); (try simp only [lg_cmp_lt, lg_cmp_le, lg_cmp_gt, lg_cmp_ge] at *); (try simp only [x_lt, x_le, Int32.reduceToInt, x_ltL, x_leL, Int64.reduceToInt] at *); omega)) dX12_has_19 ?_
      refine lv_topi (fun i_6 ei_6 => ?_)
      refine lv_goto (tgt := 24) hx hb dX12_has_20 (by decide) ?_
      exact x_iret (v := i_6) (u := ()) hx hb hr (by first | exact Or.inl ⟨(by (try dsimp only); (try simp only [lg_cmp_lt, lg_cmp_le, lg_cmp_gt, lg_cmp_ge] at *); (try simp only [x_lt, x_le, Int32.reduceToInt, x_ltL, x_leL, Int64.reduceToInt] at *); omega), (by (try dsimp only); (try simp only [lg_cmp_lt, lg_cmp_le, lg_cmp_gt, lg_cmp_ge] at *); (try simp only [x_lt, x_le, Int32.reduceToInt, x_ltL, x_leL, Int64.reduceToInt] at *); omega), by assumption⟩ | exact Or.inr ⟨(by (try dsimp only); (try simp only [lg_cmp_lt, lg_cmp_le, lg_cmp_gt, lg_cmp_ge] at *); (try simp only [x_lt, x_le, Int32.reduceToInt, x_ltL, x_leL, Int64.reduceToInt] at *); omega), rfl⟩) hP hD hK hS [0, 1] rfl (by decide) dX12_has_24 hlocks hQ
  · refine lv_if_eq (tgt := 23) hx hb dX12_has_9 (by decide) (fun c_7 => ?_) (fun c_7 => ?_)
    · refine lv_iconst (v := (-1)) hx hb dX12_has_23 (by decide) ?_
      exact x_iret (v := (-1)) (u := ()) hx hb hr (by first | exact Or.inl ⟨(by (try dsimp only); (try simp only [lg_cmp_lt, lg_cmp_le, lg_cmp_gt, lg_cmp_ge] at *); (try simp only [x_lt, x_le, Int32.reduceToInt, x_ltL, x_leL, Int64.reduceToInt] at *); omega), (by (try dsimp only); (try simp only [lg_cmp_lt, lg_cmp_le, lg_cmp_gt, lg_cmp_ge] at *); (try simp only [x_lt, x_le, Int32.reduceToInt, x_ltL, x_leL, Int64.reduceToInt] at *); omega), by assumption⟩ | exact Or.inr ⟨(by (try dsimp only); (try simp only [lg_cmp_lt, lg_cmp_le, lg_cmp_gt, lg_cmp_ge] at *); (try simp only [x_lt, x_le, Int32.reduceToInt, x_ltL, x_leL, Int64.reduceToInt] at *); omega), rfl⟩) hP hD hK hS [0, 1] rfl (by decide) dX12_has_24 hlocks hQ
    · exact absurd (by decide) c_7

def v_m_put0 : List Cond := .code yX12_put cX12_put 6 (some .boolean) :: ([.fieldLink RX12 60 "SlopeRunnerModel" "has" "[I"] ++ ((wsS RX12 231 yX12_isIn v_m_isIn) ++ wsX120))
theorem g_m_put0_0 : GoodIn v_m_put0 (wsS RX12 231 yX12_isIn v_m_isIn) := goodIn_sub (fun w h => List.mem_cons_of_mem _ (List.mem_append_right _ (List.mem_append_left _ h))) (by decide +kernel)
set_option maxHeartbeats 4000000 in
set_option maxRecDepth 100000 in
theorem m_put0 (l : Launch) (D : va_G) (y : Nat → ClassId) (sz : Nat) (h0 : Nat) (ma : Nat → Nat) (mi : Nat → Int32) (mj : Nat → Int64) (k ab be : Int32) : Met l yX12_put v_m_put0 ({ frames := 1, cells := 0, slots := 0, locals := 25 } : Room) (va_Pc [.ref h0, .int k, .int ab, .int be] (xPre D (xT y) [(h0, .inr (11, mF ma mi mj)), ((ma 24), .inl (y 2, 10, .inl (fun _ => 0)))] sz)) (va_Qi (fun (r : Int32) (_ : Unit) => r = 0) (fun (u : Unit) => xB D (xT y) (va_A [(h0, .inr (11, mF ma mi mj)), ((ma 24), .inl (y 2, 10, .inl (fun _ => 0)))] sz) [(h0, .inr (11, mF ma mi mj)), ((ma 24), .inl (y 2, 10, .inl (fun _ => 0)))]) (va_A [(h0, .inr (11, mF ma mi mj)), ((ma 24), .inl (y 2, 10, .inl (fun _ => 0)))] sz)) 0 0 (va_A [(h0, .inr (11, mF ma mi mj)), ((ma 24), .inl (y 2, 10, .inl (fun _ => 0)))] sz) := by
  refine x_meti (cc := cX12_put) (maxL := 6) (by decide) rfl (Nat.le_of_ble_eq_true rfl) ?_
  intro p e s m below meth c A H locs Q hx hb hml hown hts hr hlocks hmn hA hP hK hD hS ls hl hQ
  have hl : lv_has ls 6 [(0, .ref h0), (1, .int k), (2, .int ab), (3, .int be)] := hl
  have fl60 := hts (.fieldLink RX12 60 "SlopeRunnerModel" "has" "[I") (by decide +kernel)
  have inX12 : ∀ w ∈ wsX120, w ∈ v_m_put0 := (fun w h => List.mem_cons_of_mem _ (List.mem_append_right _ (List.mem_append_right _ h)))
  refine lv_iload_n hx hb dX12_put_0 rfl (lv_at hl 1 rfl) ?_
  refine lv_i2l hx hb dX12_put_1 rfl ?_
  refine lv_topl (fun j_1 ej_1 => ?_)
  have vj_1 : j_1.toInt = k.toInt := by rw [ej_1]; exact Int32.toInt_toInt64 _
  refine lv_lconst (v := 0) hx hb dX12_put_2 (by decide) ?_
  refine lv_aload_n hx hb dX12_put_3 rfl (lv_at hl 0 rfl) ?_
  refine va_get (D := D) (ci := 11) (v := .ref (ma 24)) (C := RX12) (T := TX12) (N := 85) hx hb hts inX12 hown hK hP 0 rfl rfl 24 (by decide) fl60 (fun _ h9 => h9) rfl dX12_put_4 ?_
  refine lv_iconst (v := 5) hx hb dX12_put_7 (by decide) ?_
  refine va_iald hx hb hK hP 1 2 rfl rfl (x_in (by decide) (by decide)) dX12_put_8 ?_
  refine lv_topi (fun i_2 ei_2 => ?_)
  obtain rfl : i_2 = 0 := ei_2.trans (by rfl)
  refine lv_iconst (v := 1) hx hb dX12_put_9 (by decide) ?_
  refine lv_isub hx hb dX12_put_10 ?_
  refine lv_topi (fun i_3 ei_3 => ?_)
  obtain rfl : i_3 = (-1) := ei_3.trans (by decide)
  refine lv_i2l hx hb dX12_put_11 rfl ?_
  refine lv_topl (fun j_4 ej_4 => ?_)
  obtain rfl : j_4 = (-1) := ej_4.trans (by decide)
  refine x_calli (w1 := fun (u : Unit) => []) (wr := [(h0, .inr (11, mF ma mi mj)), ((ma 24), .inl (y 2, 10, .inl (fun _ => 0)))]) (ws' := fun (u : Unit) => [(h0, .inr (11, mF ma mi mj)), ((ma 24), .inl (y 2, 10, .inl (fun _ => 0)))]) (va_runS (As := [.long j_1, .long 0, .long (-1)]) (rest := []) ⟨hx, hb, hml, hown, hts⟩ (m_isIn l D y H.size j_1 0 (-1)) (cwS 3 hts g_m_put0_0 rfl rfl rfl (by decide +kernel) ⟨Nat.le_of_ble_eq_true rfl, Nat.le_of_ble_eq_true rfl⟩) (x_preS hK (x_subP hP [] rfl) (x_subD hD [] rfl (by decide))) rfl rfl hl.1 rfl (lv_room (Nat.le_of_ble_eq_true rfl)) dX12_put_12 ⟨Nat.le_of_ble_eq_true rfl, Nat.le_of_ble_eq_true rfl⟩) hP hD hS hA [] [0, 1] rfl rfl (by decide) (by decide) [0, 1] (fun _ => rfl) (by decide) (fun r_5 u H locs hw hP hD hS => ?_)
  try dsimp only at hw
  have hP : va_P D vwCl [(h0, .inr (11, mF ma mi mj)), ((ma 24), .inl (y 2, 10, .inl (fun _ => 0)))] H := hP
  have hD : va_D A [(h0, .inr (11, mF ma mi mj)), ((ma 24), .inl (y 2, 10, .inl (fun _ => 0)))] := hD
  rcases hw with ⟨rfl, g_6⟩ | ⟨rfl, g_6⟩
  · exact absurd g_6 (by (try dsimp only); (try simp only [lg_cmp_lt, lg_cmp_le, lg_cmp_gt, lg_cmp_ge] at *); (try simp only [x_lt, x_le, Int32.reduceToInt, x_ltL, x_leL, Int64.reduceToInt] at *); omega)
  · refine lv_if_eq (tgt := 44) hx hb dX12_put_15 (by decide) (fun c_7 => ?_) (fun c_7 => ?_)
    · refine lv_iconst (v := 0) hx hb dX12_put_44 (by decide) ?_
      exact x_zret (v := 0) (u := ()) hx hb hr rfl rfl hP hD hK hS [0, 1] rfl (by decide) dX12_put_45 hlocks hQ
    · exact absurd (by decide) c_7

def v_m_input0 : List Cond := .code yX12_input cX12_input 3 (some .long) :: ([.fieldLink RX12 60 "SlopeRunnerModel" "has" "[I", .constantLong RX12 406 (-2000000000)] ++ ((wsS RX12 231 yX12_isIn v_m_isIn) ++ wsX120))
theorem g_m_input0_0 : GoodIn v_m_input0 (wsS RX12 231 yX12_isIn v_m_isIn) := goodIn_sub (fun w h => List.mem_cons_of_mem _ (List.mem_append_right _ (List.mem_append_left _ h))) (by decide +kernel)
set_option maxHeartbeats 4000000 in
set_option maxRecDepth 100000 in
theorem m_input0 (l : Launch) (D : va_G) (y : Nat → ClassId) (sz : Nat) (h0 : Nat) (ma : Nat → Nat) (mi : Nat → Int32) (mj : Nat → Int64) (k b : Int32) : Met l yX12_input v_m_input0 ({ frames := 1, cells := 0, slots := 0, locals := 25 } : Room) (va_Pc [.ref h0, .int k, .int b] (xPre D (xT y) [(h0, .inr (11, mF ma mi mj)), ((ma 24), .inl (y 2, 10, .inl (fun _ => 0)))] sz)) (va_Ql (fun (r : Int64) (_ : Unit) => r = -2000000000) (fun (u : Unit) => xB D (xT y) (va_A [(h0, .inr (11, mF ma mi mj)), ((ma 24), .inl (y 2, 10, .inl (fun _ => 0)))] sz) [(h0, .inr (11, mF ma mi mj)), ((ma 24), .inl (y 2, 10, .inl (fun _ => 0)))]) (va_A [(h0, .inr (11, mF ma mi mj)), ((ma 24), .inl (y 2, 10, .inl (fun _ => 0)))] sz)) 0 0 (va_A [(h0, .inr (11, mF ma mi mj)), ((ma 24), .inl (y 2, 10, .inl (fun _ => 0)))] sz) := by
  refine x_metl (cc := cX12_input) (maxL := 3) (by decide) rfl (Nat.le_of_ble_eq_true rfl) ?_
  intro p e s m below meth c A H locs Q hx hb hml hown hts hr hlocks hmn hA hP hK hD hS ls hl hQ
  have hl : lv_has ls 3 [(0, .ref h0), (1, .int k), (2, .int b)] := hl
  have fl60 := hts (.fieldLink RX12 60 "SlopeRunnerModel" "has" "[I") (by decide +kernel)
  have inX12 : ∀ w ∈ wsX120, w ∈ v_m_input0 := (fun w h => List.mem_cons_of_mem _ (List.mem_append_right _ (List.mem_append_right _ h)))
  refine lv_iload_n hx hb dX12_input_0 rfl (lv_at hl 1 rfl) ?_
  refine lv_i2l hx hb dX12_input_1 rfl ?_
  refine lv_topl (fun j_1 ej_1 => ?_)
  have vj_1 : j_1.toInt = k.toInt := by rw [ej_1]; exact Int32.toInt_toInt64 _
  refine lv_lconst (v := 0) hx hb dX12_input_2 (by decide) ?_
  refine lv_aload_n hx hb dX12_input_3 rfl (lv_at hl 0 rfl) ?_
  refine va_get (D := D) (ci := 11) (v := .ref (ma 24)) (C := RX12) (T := TX12) (N := 85) hx hb hts inX12 hown hK hP 0 rfl rfl 24 (by decide) fl60 (fun _ h9 => h9) rfl dX12_input_4 ?_
  refine lv_iconst (v := 5) hx hb dX12_input_7 (by decide) ?_
  refine va_iald hx hb hK hP 1 2 rfl rfl (x_in (by decide) (by decide)) dX12_input_8 ?_
  refine lv_topi (fun i_2 ei_2 => ?_)
  obtain rfl : i_2 = 0 := ei_2.trans (by rfl)
  refine lv_iconst (v := 1) hx hb dX12_input_9 (by decide) ?_
  refine lv_isub hx hb dX12_input_10 ?_
  refine lv_topi (fun i_3 ei_3 => ?_)
  obtain rfl : i_3 = (-1) := ei_3.trans (by decide)
  refine lv_i2l hx hb dX12_input_11 rfl ?_
  refine lv_topl (fun j_4 ej_4 => ?_)
  obtain rfl : j_4 = (-1) := ej_4.trans (by decide)
  refine x_calli (w1 := fun (u : Unit) => []) (wr := [(h0, .inr (11, mF ma mi mj)), ((ma 24), .inl (y 2, 10, .inl (fun _ => 0)))]) (ws' := fun (u : Unit) => [(h0, .inr (11, mF ma mi mj)), ((ma 24), .inl (y 2, 10, .inl (fun _ => 0)))]) (va_runS (As := [.long j_1, .long 0, .long (-1)]) (rest := []) ⟨hx, hb, hml, hown, hts⟩ (m_isIn l D y H.size j_1 0 (-1)) (cwS 3 hts g_m_input0_0 rfl rfl rfl (by decide +kernel) ⟨Nat.le_of_ble_eq_true rfl, Nat.le_of_ble_eq_true rfl⟩) (x_preS hK (x_subP hP [] rfl) (x_subD hD [] rfl (by decide))) rfl rfl hl.1 rfl (lv_room (Nat.le_of_ble_eq_true rfl)) dX12_input_12 ⟨Nat.le_of_ble_eq_true rfl, Nat.le_of_ble_eq_true rfl⟩) hP hD hS hA [] [0, 1] rfl rfl (by decide) (by decide) [0, 1] (fun _ => rfl) (by decide) (fun r_5 u H locs hw hP hD hS => ?_)
  try dsimp only at hw
  have hP : va_P D vwCl [(h0, .inr (11, mF ma mi mj)), ((ma 24), .inl (y 2, 10, .inl (fun _ => 0)))] H := hP
  have hD : va_D A [(h0, .inr (11, mF ma mi mj)), ((ma 24), .inl (y 2, 10, .inl (fun _ => 0)))] := hD
  rcases hw with ⟨rfl, g_6⟩ | ⟨rfl, g_6⟩
  · exact absurd g_6 (by (try dsimp only); (try simp only [lg_cmp_lt, lg_cmp_le, lg_cmp_gt, lg_cmp_ge] at *); (try simp only [x_lt, x_le, Int32.reduceToInt, x_ltL, x_leL, Int64.reduceToInt] at *); omega)
  · refine lv_if_ne (tgt := 24) hx hb dX12_input_15 (by decide) (fun c_7 => ?_) (fun c_7 => ?_)
    · exact absurd (by decide) c_7
    · refine lv_ldc2 (v := (-2000000000)) hx hb hown (hts (.constantLong RX12 406 (-2000000000)) (by decide +kernel)) dX12_input_18 ?_
      refine lv_goto (tgt := 43) hx hb dX12_input_21 (by decide) ?_
      exact x_lret (v := (-2000000000)) (u := ()) hx hb hr rfl hP hD hK hS [0, 1] rfl (by decide) dX12_input_43 hlocks hQ

def v_m_ran0 : List Cond := .code yX12_ran cX12_ran 2 (some .int) :: ([.fieldLink RX12 371 "SlopeRunnerModel" "hasRun" "Z"] ++ wsX120)
set_option maxHeartbeats 4000000 in
set_option maxRecDepth 100000 in
theorem m_ran0 (l : Launch) (D : va_G) (y : Nat → ClassId) (sz : Nat) (h0 : Nat) (ma : Nat → Nat) (mi : Nat → Int32) (mj : Nat → Int64) (what : Int32) : Met l yX12_ran v_m_ran0 ({ frames := 0, cells := 0, slots := 0, locals := 0 } : Room) (va_Pc [.ref h0, .int what] (xPre D (xT y) [(h0, .inr (11, mF ma (upd mi 54 0) mj))] sz)) (va_Qi (fun (r : Int32) (_ : Unit) => r = -1) (fun (u : Unit) => xB D (xT y) (va_A [(h0, .inr (11, mF ma (upd mi 54 0) mj))] sz) [(h0, .inr (11, mF ma (upd mi 54 0) mj))]) (va_A [(h0, .inr (11, mF ma (upd mi 54 0) mj))] sz)) 0 0 (va_A [(h0, .inr (11, mF ma (upd mi 54 0) mj))] sz) := by
  refine x_meti (cc := cX12_ran) (maxL := 2) (by decide) rfl (Nat.le_of_ble_eq_true rfl) ?_
  intro p e s m below meth c A H locs Q hx hb hml hown hts hr hlocks hmn hA hP hK hD hS ls hl hQ
  have hl : lv_has ls 2 [(0, .ref h0), (1, .int what)] := hl
  have fl371 := hts (.fieldLink RX12 371 "SlopeRunnerModel" "hasRun" "Z") (by decide +kernel)
  have inX12 : ∀ w ∈ wsX120, w ∈ v_m_ran0 := (fun w h => List.mem_cons_of_mem _ (List.mem_append_right _ h))
  refine lv_aload_n hx hb dX12_ran_0 rfl (lv_at hl 0 rfl) ?_
  refine va_get (D := D) (ci := 11) (v := .int 0) (C := RX12) (T := TX12) (N := 85) hx hb hts inX12 hown hK hP 0 rfl rfl 54 (by decide) fl371 (fun _ h9 => h9) rfl dX12_ran_1 ?_
  refine lv_if_ne (tgt := 9) hx hb dX12_ran_4 (by decide) (fun c_1 => ?_) (fun c_1 => ?_)
  · exact absurd (by decide) c_1
  · refine lv_iconst (v := (-1)) hx hb dX12_ran_7 (by decide) ?_
    exact x_iret (v := (-1)) (u := ()) hx hb hr rfl hP hD hK hS [0] rfl (by decide) dX12_ran_8 hlocks hQ

def v_m_isResult0 : List Cond := .code yX12_isResult cX12_isResult 2 (some .boolean) :: ([.fieldLink RX12 371 "SlopeRunnerModel" "hasRun" "Z"] ++ wsX120)
set_option maxHeartbeats 4000000 in
set_option maxRecDepth 100000 in
theorem m_isResult0 (l : Launch) (D : va_G) (y : Nat → ClassId) (sz : Nat) (h0 : Nat) (ma : Nat → Nat) (mi : Nat → Int32) (mj : Nat → Int64) (k : Int32) : Met l yX12_isResult v_m_isResult0 ({ frames := 0, cells := 0, slots := 0, locals := 0 } : Room) (va_Pc [.ref h0, .int k] (xPre D (xT y) [(h0, .inr (11, mF ma (upd mi 54 0) mj))] sz)) (va_Qi (fun (r : Int32) (_ : Unit) => r = 0) (fun (u : Unit) => xB D (xT y) (va_A [(h0, .inr (11, mF ma (upd mi 54 0) mj))] sz) [(h0, .inr (11, mF ma (upd mi 54 0) mj))]) (va_A [(h0, .inr (11, mF ma (upd mi 54 0) mj))] sz)) 0 0 (va_A [(h0, .inr (11, mF ma (upd mi 54 0) mj))] sz) := by
  refine x_meti (cc := cX12_isResult) (maxL := 2) (by decide) rfl (Nat.le_of_ble_eq_true rfl) ?_
  intro p e s m below meth c A H locs Q hx hb hml hown hts hr hlocks hmn hA hP hK hD hS ls hl hQ
  have hl : lv_has ls 2 [(0, .ref h0), (1, .int k)] := hl
  have fl371 := hts (.fieldLink RX12 371 "SlopeRunnerModel" "hasRun" "Z") (by decide +kernel)
  have inX12 : ∀ w ∈ wsX120, w ∈ v_m_isResult0 := (fun w h => List.mem_cons_of_mem _ (List.mem_append_right _ h))
  refine lv_aload_n hx hb dX12_isResult_0 rfl (lv_at hl 0 rfl) ?_
  refine va_get (D := D) (ci := 11) (v := .int 0) (C := RX12) (T := TX12) (N := 85) hx hb hts inX12 hown hK hP 0 rfl rfl 54 (by decide) fl371 (fun _ h9 => h9) rfl dX12_isResult_1 ?_
  refine lv_if_eq (tgt := 29) hx hb dX12_isResult_4 (by decide) (fun c_1 => ?_) (fun c_1 => ?_)
  · refine lv_iconst (v := 0) hx hb dX12_isResult_29 (by decide) ?_
    exact x_zret (v := 0) (u := ()) hx hb hr rfl rfl hP hD hK hS [0] rfl (by decide) dX12_isResult_30 hlocks hQ
  · exact absurd (by decide) c_1

def v_m_result0 : List Cond := .code yX12_result cX12_result 3 (some .long) :: ([.constantLong RX12 406 (-2000000000)] ++ (wsV RX12 454 RX12 yX12_isResult v_m_isResult0))
theorem g_m_result0_0 : GoodIn v_m_result0 (wsV RX12 454 RX12 yX12_isResult v_m_isResult0) := goodIn_sub (fun w h => List.mem_cons_of_mem _ (List.mem_append_right _ h)) (by decide +kernel)
set_option maxHeartbeats 4000000 in
set_option maxRecDepth 100000 in
theorem m_result0 (l : Launch) (D : va_G) (y : Nat → ClassId) (sz : Nat) (h0 : Nat) (ma : Nat → Nat) (mi : Nat → Int32) (mj : Nat → Int64) (k b : Int32) : Met l yX12_result v_m_result0 ({ frames := 1, cells := 0, slots := 0, locals := 21 } : Room) (va_Pc [.ref h0, .int k, .int b] (xPre D (xT y) [(h0, .inr (11, mF ma (upd mi 54 0) mj))] sz)) (va_Ql (fun (r : Int64) (_ : Unit) => r = -2000000000) (fun (u : Unit) => xB D (xT y) (va_A [(h0, .inr (11, mF ma (upd mi 54 0) mj))] sz) [(h0, .inr (11, mF ma (upd mi 54 0) mj))]) (va_A [(h0, .inr (11, mF ma (upd mi 54 0) mj))] sz)) 0 0 (va_A [(h0, .inr (11, mF ma (upd mi 54 0) mj))] sz) := by
  refine x_metl (cc := cX12_result) (maxL := 3) (by decide) rfl (Nat.le_of_ble_eq_true rfl) ?_
  intro p e s m below meth c A H locs Q hx hb hml hown hts hr hlocks hmn hA hP hK hD hS ls hl hQ
  have hl : lv_has ls 3 [(0, .ref h0), (1, .int k), (2, .int b)] := hl
  refine lv_aload_n hx hb dX12_result_0 rfl (lv_at hl 0 rfl) ?_
  refine lv_iload_n hx hb dX12_result_1 rfl (lv_at hl 1 rfl) ?_
  refine x_calli (w1 := fun (u : Unit) => [(h0, .inr (11, mF ma (upd (upd mi 54 0) 54 0) mj))]) (wr := []) (ws' := fun (u : Unit) => [(h0, .inr (11, mF ma (upd mi 54 0) mj))]) (va_runV (As := [.int k]) (rest := []) ⟨hx, hb, hml, hown, hts⟩ (m_isResult0 l D y H.size h0 ma (upd mi 54 0) mj k) (cwV 1 hts g_m_result0_0 rfl rfl rfl (by decide +kernel) ⟨Nat.le_of_ble_eq_true rfl, Nat.le_of_ble_eq_true rfl⟩) (x_preV (q := (RX12, TX12, 85)) hK (x_subP hP [0] rfl) (x_subD hD [0] rfl (by decide)) (ci := 11) (q0 := 0) rfl rfl) rfl rfl hl.1 rfl (lv_room (Nat.le_of_ble_eq_true rfl)) dX12_result_2 ⟨Nat.le_of_ble_eq_true rfl, Nat.le_of_ble_eq_true rfl⟩) hP hD hS hA [0] [] rfl rfl (by decide) (by decide) [0] (fun _ => rfl) (by decide) (fun r_1 u H locs hw hP hD hS => ?_)
  try dsimp only at hw
  obtain rfl : r_1 = 0 := hw
  have hP : va_P D vwCl [(h0, .inr (11, mF ma (upd mi 54 0) mj))] H := hP
  have hD : va_D A [(h0, .inr (11, mF ma (upd mi 54 0) mj))] := hD
  refine lv_if_ne (tgt := 14) hx hb dX12_result_5 (by decide) (fun c_2 => ?_) (fun c_2 => ?_)
  · exact absurd (by decide) c_2
  · refine lv_ldc2 (v := (-2000000000)) hx hb hown (hts (.constantLong RX12 406 (-2000000000)) (by decide +kernel)) dX12_result_8 ?_
    refine lv_goto (tgt := 43) hx hb dX12_result_11 (by decide) ?_
    exact x_lret (v := (-2000000000)) (u := ()) hx hb hr rfl hP hD hK hS [0] rfl (by decide) dX12_result_43 hlocks hQ

def v_m_near0 : List Cond := .code yX12_near cX12_near 2 (some .long) :: ([.fieldLink RX12 371 "SlopeRunnerModel" "hasRun" "Z", .constantLong RX12 406 (-2000000000)] ++ wsX120)
set_option maxHeartbeats 4000000 in
set_option maxRecDepth 100000 in
theorem m_near0 (l : Launch) (D : va_G) (y : Nat → ClassId) (sz : Nat) (h0 : Nat) (ma : Nat → Nat) (mi : Nat → Int32) (mj : Nat → Int64) (b : Int32) : Met l yX12_near v_m_near0 ({ frames := 0, cells := 0, slots := 0, locals := 0 } : Room) (va_Pc [.ref h0, .int b] (xPre D (xT y) [(h0, .inr (11, mF ma (upd mi 54 0) mj))] sz)) (va_Ql (fun (r : Int64) (_ : Unit) => r = -2000000000) (fun (u : Unit) => xB D (xT y) (va_A [(h0, .inr (11, mF ma (upd mi 54 0) mj))] sz) [(h0, .inr (11, mF ma (upd mi 54 0) mj))]) (va_A [(h0, .inr (11, mF ma (upd mi 54 0) mj))] sz)) 0 0 (va_A [(h0, .inr (11, mF ma (upd mi 54 0) mj))] sz) := by
  refine x_metl (cc := cX12_near) (maxL := 2) (by decide) rfl (Nat.le_of_ble_eq_true rfl) ?_
  intro p e s m below meth c A H locs Q hx hb hml hown hts hr hlocks hmn hA hP hK hD hS ls hl hQ
  have hl : lv_has ls 2 [(0, .ref h0), (1, .int b)] := hl
  have fl371 := hts (.fieldLink RX12 371 "SlopeRunnerModel" "hasRun" "Z") (by decide +kernel)
  have inX12 : ∀ w ∈ wsX120, w ∈ v_m_near0 := (fun w h => List.mem_cons_of_mem _ (List.mem_append_right _ h))
  refine lv_aload_n hx hb dX12_near_0 rfl (lv_at hl 0 rfl) ?_
  refine va_get (D := D) (ci := 11) (v := .int 0) (C := RX12) (T := TX12) (N := 85) hx hb hts inX12 hown hK hP 0 rfl rfl 54 (by decide) fl371 (fun _ h9 => h9) rfl dX12_near_1 ?_
  refine lv_if_eq (tgt := 14) hx hb dX12_near_4 (by decide) (fun c_1 => ?_) (fun c_1 => ?_)
  · refine lv_ldc2 (v := (-2000000000)) hx hb hown (hts (.constantLong RX12 406 (-2000000000)) (by decide +kernel)) dX12_near_14 ?_
    refine lv_goto (tgt := 35) hx hb dX12_near_17 (by decide) ?_
    exact x_lret (v := (-2000000000)) (u := ()) hx hb hr rfl hP hD hK hS [0] rfl (by decide) dX12_near_35 hlocks hQ
  · exact absurd (by decide) c_1

def v_m_forward0 : List Cond := .code yX12_forward cX12_forward 4 (some .long) :: ([.constantLong RX12 406 (-2000000000)] ++ (wsV RX12 454 RX12 yX12_isResult v_m_isResult0))
theorem g_m_forward0_0 : GoodIn v_m_forward0 (wsV RX12 454 RX12 yX12_isResult v_m_isResult0) := goodIn_sub (fun w h => List.mem_cons_of_mem _ (List.mem_append_right _ h)) (by decide +kernel)
set_option maxHeartbeats 4000000 in
set_option maxRecDepth 100000 in
theorem m_forward0 (l : Launch) (D : va_G) (y : Nat → ClassId) (sz : Nat) (h0 : Nat) (ma : Nat → Nat) (mi : Nat → Int32) (mj : Nat → Int64) (p0 p1 p2 : Int32) : Met l yX12_forward v_m_forward0 ({ frames := 1, cells := 0, slots := 0, locals := 21 } : Room) (va_Pc [.ref h0, .int p0, .int p1, .int p2] (xPre D (xT y) [(h0, .inr (11, mF ma (upd mi 54 0) mj))] sz)) (va_Ql (fun (r : Int64) (_ : Unit) => r = -2000000000) (fun (u : Unit) => xB D (xT y) (va_A [(h0, .inr (11, mF ma (upd mi 54 0) mj))] sz) [(h0, .inr (11, mF ma (upd mi 54 0) mj))]) (va_A [(h0, .inr (11, mF ma (upd mi 54 0) mj))] sz)) 0 0 (va_A [(h0, .inr (11, mF ma (upd mi 54 0) mj))] sz) := by
  refine x_metl (cc := cX12_forward) (maxL := 4) (by decide) rfl (Nat.le_of_ble_eq_true rfl) ?_
  intro p e s m below meth c A H locs Q hx hb hml hown hts hr hlocks hmn hA hP hK hD hS ls hl hQ
  have hl : lv_has ls 4 [(0, .ref h0), (1, .int p0), (2, .int p1), (3, .int p2)] := hl
  refine lv_aload_n hx hb dX12_forward_0 rfl (lv_at hl 0 rfl) ?_
  refine lv_iload_n hx hb dX12_forward_1 rfl (lv_at hl 1 rfl) ?_
  refine x_calli (w1 := fun (u : Unit) => [(h0, .inr (11, mF ma (upd (upd mi 54 0) 54 0) mj))]) (wr := []) (ws' := fun (u : Unit) => [(h0, .inr (11, mF ma (upd mi 54 0) mj))]) (va_runV (As := [.int p0]) (rest := []) ⟨hx, hb, hml, hown, hts⟩ (m_isResult0 l D y H.size h0 ma (upd mi 54 0) mj p0) (cwV 1 hts g_m_forward0_0 rfl rfl rfl (by decide +kernel) ⟨Nat.le_of_ble_eq_true rfl, Nat.le_of_ble_eq_true rfl⟩) (x_preV (q := (RX12, TX12, 85)) hK (x_subP hP [0] rfl) (x_subD hD [0] rfl (by decide)) (ci := 11) (q0 := 0) rfl rfl) rfl rfl hl.1 rfl (lv_room (Nat.le_of_ble_eq_true rfl)) dX12_forward_2 ⟨Nat.le_of_ble_eq_true rfl, Nat.le_of_ble_eq_true rfl⟩) hP hD hS hA [0] [] rfl rfl (by decide) (by decide) [0] (fun _ => rfl) (by decide) (fun r_1 u H locs hw hP hD hS => ?_)
  try dsimp only at hw
  obtain rfl : r_1 = 0 := hw
  have hP : va_P D vwCl [(h0, .inr (11, mF ma (upd mi 54 0) mj))] H := hP
  have hD : va_D A [(h0, .inr (11, mF ma (upd mi 54 0) mj))] := hD
  refine lv_if_eq (tgt := 16) hx hb dX12_forward_5 (by decide) (fun c_2 => ?_) (fun c_2 => ?_)
  · refine lv_ldc2 (v := (-2000000000)) hx hb hown (hts (.constantLong RX12 406 (-2000000000)) (by decide +kernel)) dX12_forward_16 ?_
    exact x_lret (v := (-2000000000)) (u := ()) hx hb hr rfl hP hD hK hS [0] rfl (by decide) dX12_forward_19 hlocks hQ
  · exact absurd (by decide) c_2

def v_m_backward0 : List Cond := .code yX12_backward cX12_backward 5 (some .long) :: ([.constantLong RX12 406 (-2000000000)] ++ (wsV RX12 454 RX12 yX12_isResult v_m_isResult0))
theorem g_m_backward0_0 : GoodIn v_m_backward0 (wsV RX12 454 RX12 yX12_isResult v_m_isResult0) := goodIn_sub (fun w h => List.mem_cons_of_mem _ (List.mem_append_right _ h)) (by decide +kernel)
set_option maxHeartbeats 4000000 in
set_option maxRecDepth 100000 in
theorem m_backward0 (l : Launch) (D : va_G) (y : Nat → ClassId) (sz : Nat) (h0 : Nat) (ma : Nat → Nat) (mi : Nat → Int32) (mj : Nat → Int64) (p0 p1 p2 : Int32) : Met l yX12_backward v_m_backward0 ({ frames := 1, cells := 0, slots := 0, locals := 21 } : Room) (va_Pc [.ref h0, .int p0, .int p1, .int p2] (xPre D (xT y) [(h0, .inr (11, mF ma (upd mi 54 0) mj))] sz)) (va_Ql (fun (r : Int64) (_ : Unit) => r = -2000000000) (fun (u : Unit) => xB D (xT y) (va_A [(h0, .inr (11, mF ma (upd mi 54 0) mj))] sz) [(h0, .inr (11, mF ma (upd mi 54 0) mj))]) (va_A [(h0, .inr (11, mF ma (upd mi 54 0) mj))] sz)) 0 0 (va_A [(h0, .inr (11, mF ma (upd mi 54 0) mj))] sz) := by
  refine x_metl (cc := cX12_backward) (maxL := 5) (by decide) rfl (Nat.le_of_ble_eq_true rfl) ?_
  intro p e s m below meth c A H locs Q hx hb hml hown hts hr hlocks hmn hA hP hK hD hS ls hl hQ
  have hl : lv_has ls 5 [(0, .ref h0), (1, .int p0), (2, .int p1), (3, .int p2)] := hl
  refine lv_aload_n hx hb dX12_backward_0 rfl (lv_at hl 0 rfl) ?_
  refine lv_iload_n hx hb dX12_backward_1 rfl (lv_at hl 1 rfl) ?_
  refine x_calli (w1 := fun (u : Unit) => [(h0, .inr (11, mF ma (upd (upd mi 54 0) 54 0) mj))]) (wr := []) (ws' := fun (u : Unit) => [(h0, .inr (11, mF ma (upd mi 54 0) mj))]) (va_runV (As := [.int p0]) (rest := []) ⟨hx, hb, hml, hown, hts⟩ (m_isResult0 l D y H.size h0 ma (upd mi 54 0) mj p0) (cwV 1 hts g_m_backward0_0 rfl rfl rfl (by decide +kernel) ⟨Nat.le_of_ble_eq_true rfl, Nat.le_of_ble_eq_true rfl⟩) (x_preV (q := (RX12, TX12, 85)) hK (x_subP hP [0] rfl) (x_subD hD [0] rfl (by decide)) (ci := 11) (q0 := 0) rfl rfl) rfl rfl hl.1 rfl (lv_room (Nat.le_of_ble_eq_true rfl)) dX12_backward_2 ⟨Nat.le_of_ble_eq_true rfl, Nat.le_of_ble_eq_true rfl⟩) hP hD hS hA [0] [] rfl rfl (by decide) (by decide) [0] (fun _ => rfl) (by decide) (fun r_1 u H locs hw hP hD hS => ?_)
  try dsimp only at hw
  obtain rfl : r_1 = 0 := hw
  have hP : va_P D vwCl [(h0, .inr (11, mF ma (upd mi 54 0) mj))] H := hP
  have hD : va_D A [(h0, .inr (11, mF ma (upd mi 54 0) mj))] := hD
  refine lv_if_eq (tgt := 16) hx hb dX12_backward_5 (by decide) (fun c_2 => ?_) (fun c_2 => ?_)
  · refine lv_ldc2 (v := (-2000000000)) hx hb hown (hts (.constantLong RX12 406 (-2000000000)) (by decide +kernel)) dX12_backward_16 ?_
    exact x_lret (v := (-2000000000)) (u := ()) hx hb hr rfl hP hD hK hS [0] rfl (by decide) dX12_backward_19 hlocks hQ
  · exact absurd (by decide) c_2

def v_m_twice0 : List Cond := .code yX12_twice cX12_twice 6 (some .long) :: ([.constantLong RX12 406 (-2000000000)] ++ (wsV RX12 454 RX12 yX12_isResult v_m_isResult0))
theorem g_m_twice0_0 : GoodIn v_m_twice0 (wsV RX12 454 RX12 yX12_isResult v_m_isResult0) := goodIn_sub (fun w h => List.mem_cons_of_mem _ (List.mem_append_right _ h)) (by decide +kernel)
set_option maxHeartbeats 4000000 in
set_option maxRecDepth 100000 in
theorem m_twice0 (l : Launch) (D : va_G) (y : Nat → ClassId) (sz : Nat) (h0 : Nat) (ma : Nat → Nat) (mi : Nat → Int32) (mj : Nat → Int64) (p0 p1 p2 p3 : Int32) : Met l yX12_twice v_m_twice0 ({ frames := 1, cells := 0, slots := 0, locals := 21 } : Room) (va_Pc [.ref h0, .int p0, .int p1, .int p2, .int p3] (xPre D (xT y) [(h0, .inr (11, mF ma (upd mi 54 0) mj))] sz)) (va_Ql (fun (r : Int64) (_ : Unit) => r = -2000000000) (fun (u : Unit) => xB D (xT y) (va_A [(h0, .inr (11, mF ma (upd mi 54 0) mj))] sz) [(h0, .inr (11, mF ma (upd mi 54 0) mj))]) (va_A [(h0, .inr (11, mF ma (upd mi 54 0) mj))] sz)) 0 0 (va_A [(h0, .inr (11, mF ma (upd mi 54 0) mj))] sz) := by
  refine x_metl (cc := cX12_twice) (maxL := 6) (by decide) rfl (Nat.le_of_ble_eq_true rfl) ?_
  intro p e s m below meth c A H locs Q hx hb hml hown hts hr hlocks hmn hA hP hK hD hS ls hl hQ
  have hl : lv_has ls 6 [(0, .ref h0), (1, .int p0), (2, .int p1), (3, .int p2), (4, .int p3)] := hl
  refine lv_aload_n hx hb dX12_twice_0 rfl (lv_at hl 0 rfl) ?_
  refine lv_iload_n hx hb dX12_twice_1 rfl (lv_at hl 1 rfl) ?_
  refine x_calli (w1 := fun (u : Unit) => [(h0, .inr (11, mF ma (upd (upd mi 54 0) 54 0) mj))]) (wr := []) (ws' := fun (u : Unit) => [(h0, .inr (11, mF ma (upd mi 54 0) mj))]) (va_runV (As := [.int p0]) (rest := []) ⟨hx, hb, hml, hown, hts⟩ (m_isResult0 l D y H.size h0 ma (upd mi 54 0) mj p0) (cwV 1 hts g_m_twice0_0 rfl rfl rfl (by decide +kernel) ⟨Nat.le_of_ble_eq_true rfl, Nat.le_of_ble_eq_true rfl⟩) (x_preV (q := (RX12, TX12, 85)) hK (x_subP hP [0] rfl) (x_subD hD [0] rfl (by decide)) (ci := 11) (q0 := 0) rfl rfl) rfl rfl hl.1 rfl (lv_room (Nat.le_of_ble_eq_true rfl)) dX12_twice_2 ⟨Nat.le_of_ble_eq_true rfl, Nat.le_of_ble_eq_true rfl⟩) hP hD hS hA [0] [] rfl rfl (by decide) (by decide) [0] (fun _ => rfl) (by decide) (fun r_1 u H locs hw hP hD hS => ?_)
  try dsimp only at hw
  obtain rfl : r_1 = 0 := hw
  have hP : va_P D vwCl [(h0, .inr (11, mF ma (upd mi 54 0) mj))] H := hP
  have hD : va_D A [(h0, .inr (11, mF ma (upd mi 54 0) mj))] := hD
  refine lv_if_eq (tgt := 24) hx hb dX12_twice_5 (by decide) (fun c_2 => ?_) (fun c_2 => ?_)
  · refine lv_ldc2 (v := (-2000000000)) hx hb hown (hts (.constantLong RX12 406 (-2000000000)) (by decide +kernel)) dX12_twice_24 ?_
    exact x_lret (v := (-2000000000)) (u := ()) hx hb hr rfl hP hD hK hS [0] rfl (by decide) dX12_twice_27 hlocks hQ
  · exact absurd (by decide) c_2

def v_m_difference0 : List Cond := .code yX12_difference cX12_difference 11 (some .long) :: ([.constantLong RX12 406 (-2000000000)] ++ (wsV RX12 454 RX12 yX12_isResult v_m_isResult0))
theorem g_m_difference0_0 : GoodIn v_m_difference0 (wsV RX12 454 RX12 yX12_isResult v_m_isResult0) := goodIn_sub (fun w h => List.mem_cons_of_mem _ (List.mem_append_right _ h)) (by decide +kernel)
set_option maxHeartbeats 4000000 in
set_option maxRecDepth 100000 in
theorem m_difference0 (l : Launch) (D : va_G) (y : Nat → ClassId) (sz : Nat) (h0 : Nat) (ma : Nat → Nat) (mi : Nat → Int32) (mj : Nat → Int64) (p0 p1 p2 p3 p4 : Int32) : Met l yX12_difference v_m_difference0 ({ frames := 1, cells := 0, slots := 0, locals := 21 } : Room) (va_Pc [.ref h0, .int p0, .int p1, .int p2, .int p3, .int p4] (xPre D (xT y) [(h0, .inr (11, mF ma (upd mi 54 0) mj))] sz)) (va_Ql (fun (r : Int64) (_ : Unit) => r = -2000000000) (fun (u : Unit) => xB D (xT y) (va_A [(h0, .inr (11, mF ma (upd mi 54 0) mj))] sz) [(h0, .inr (11, mF ma (upd mi 54 0) mj))]) (va_A [(h0, .inr (11, mF ma (upd mi 54 0) mj))] sz)) 0 0 (va_A [(h0, .inr (11, mF ma (upd mi 54 0) mj))] sz) := by
  refine x_metl (cc := cX12_difference) (maxL := 11) (by decide) rfl (Nat.le_of_ble_eq_true rfl) ?_
  intro p e s m below meth c A H locs Q hx hb hml hown hts hr hlocks hmn hA hP hK hD hS ls hl hQ
  have hl : lv_has ls 11 [(0, .ref h0), (1, .int p0), (2, .int p1), (3, .int p2), (4, .int p3), (5, .int p4)] := hl
  refine lv_aload_n hx hb dX12_difference_0 rfl (lv_at hl 0 rfl) ?_
  refine lv_iload_n hx hb dX12_difference_1 rfl (lv_at hl 1 rfl) ?_
  refine x_calli (w1 := fun (u : Unit) => [(h0, .inr (11, mF ma (upd (upd mi 54 0) 54 0) mj))]) (wr := []) (ws' := fun (u : Unit) => [(h0, .inr (11, mF ma (upd mi 54 0) mj))]) (va_runV (As := [.int p0]) (rest := []) ⟨hx, hb, hml, hown, hts⟩ (m_isResult0 l D y H.size h0 ma (upd mi 54 0) mj p0) (cwV 1 hts g_m_difference0_0 rfl rfl rfl (by decide +kernel) ⟨Nat.le_of_ble_eq_true rfl, Nat.le_of_ble_eq_true rfl⟩) (x_preV (q := (RX12, TX12, 85)) hK (x_subP hP [0] rfl) (x_subD hD [0] rfl (by decide)) (ci := 11) (q0 := 0) rfl rfl) rfl rfl hl.1 rfl (lv_room (Nat.le_of_ble_eq_true rfl)) dX12_difference_2 ⟨Nat.le_of_ble_eq_true rfl, Nat.le_of_ble_eq_true rfl⟩) hP hD hS hA [0] [] rfl rfl (by decide) (by decide) [0] (fun _ => rfl) (by decide) (fun r_1 u H locs hw hP hD hS => ?_)
  try dsimp only at hw
  obtain rfl : r_1 = 0 := hw
  have hP : va_P D vwCl [(h0, .inr (11, mF ma (upd mi 54 0) mj))] H := hP
  have hD : va_D A [(h0, .inr (11, mF ma (upd mi 54 0) mj))] := hD
  refine lv_if_eq (tgt := 47) hx hb dX12_difference_5 (by decide) (fun c_2 => ?_) (fun c_2 => ?_)
  · refine lv_ldc2 (v := (-2000000000)) hx hb hown (hts (.constantLong RX12 406 (-2000000000)) (by decide +kernel)) dX12_difference_47 ?_
    exact x_lret (v := (-2000000000)) (u := ()) hx hb hr rfl hP hD hK hS [0] rfl (by decide) dX12_difference_50 hlocks hQ
  · exact absurd (by decide) c_2

def v_m_moves0 : List Cond := .code yX12_moves cX12_moves 2 (some .int) :: ([] ++ (wsV RX12 454 RX12 yX12_isResult v_m_isResult0))
theorem g_m_moves0_0 : GoodIn v_m_moves0 (wsV RX12 454 RX12 yX12_isResult v_m_isResult0) := goodIn_sub (fun w h => List.mem_cons_of_mem _ (List.mem_append_right _ h)) (by decide +kernel)
set_option maxHeartbeats 4000000 in
set_option maxRecDepth 100000 in
theorem m_moves0 (l : Launch) (D : va_G) (y : Nat → ClassId) (sz : Nat) (h0 : Nat) (ma : Nat → Nat) (mi : Nat → Int32) (mj : Nat → Int64) (k : Int32) : Met l yX12_moves v_m_moves0 ({ frames := 1, cells := 0, slots := 0, locals := 21 } : Room) (va_Pc [.ref h0, .int k] (xPre D (xT y) [(h0, .inr (11, mF ma (upd mi 54 0) mj))] sz)) (va_Qi (fun (r : Int32) (_ : Unit) => r = -1) (fun (u : Unit) => xB D (xT y) (va_A [(h0, .inr (11, mF ma (upd mi 54 0) mj))] sz) [(h0, .inr (11, mF ma (upd mi 54 0) mj))]) (va_A [(h0, .inr (11, mF ma (upd mi 54 0) mj))] sz)) 0 0 (va_A [(h0, .inr (11, mF ma (upd mi 54 0) mj))] sz) := by
  refine x_meti (cc := cX12_moves) (maxL := 2) (by decide) rfl (Nat.le_of_ble_eq_true rfl) ?_
  intro p e s m below meth c A H locs Q hx hb hml hown hts hr hlocks hmn hA hP hK hD hS ls hl hQ
  have hl : lv_has ls 2 [(0, .ref h0), (1, .int k)] := hl
  refine lv_aload_n hx hb dX12_moves_0 rfl (lv_at hl 0 rfl) ?_
  refine lv_iload_n hx hb dX12_moves_1 rfl (lv_at hl 1 rfl) ?_
  refine x_calli (w1 := fun (u : Unit) => [(h0, .inr (11, mF ma (upd (upd mi 54 0) 54 0) mj))]) (wr := []) (ws' := fun (u : Unit) => [(h0, .inr (11, mF ma (upd mi 54 0) mj))]) (va_runV (As := [.int k]) (rest := []) ⟨hx, hb, hml, hown, hts⟩ (m_isResult0 l D y H.size h0 ma (upd mi 54 0) mj k) (cwV 1 hts g_m_moves0_0 rfl rfl rfl (by decide +kernel) ⟨Nat.le_of_ble_eq_true rfl, Nat.le_of_ble_eq_true rfl⟩) (x_preV (q := (RX12, TX12, 85)) hK (x_subP hP [0] rfl) (x_subD hD [0] rfl (by decide)) (ci := 11) (q0 := 0) rfl rfl) rfl rfl hl.1 rfl (lv_room (Nat.le_of_ble_eq_true rfl)) dX12_moves_2 ⟨Nat.le_of_ble_eq_true rfl, Nat.le_of_ble_eq_true rfl⟩) hP hD hS hA [0] [] rfl rfl (by decide) (by decide) [0] (fun _ => rfl) (by decide) (fun r_1 u H locs hw hP hD hS => ?_)
  try dsimp only at hw
  obtain rfl : r_1 = 0 := hw
  have hP : va_P D vwCl [(h0, .inr (11, mF ma (upd mi 54 0) mj))] H := hP
  have hD : va_D A [(h0, .inr (11, mF ma (upd mi 54 0) mj))] := hD
  refine lv_if_eq (tgt := 16) hx hb dX12_moves_5 (by decide) (fun c_2 => ?_) (fun c_2 => ?_)
  · refine lv_iconst (v := (-1)) hx hb dX12_moves_16 (by decide) ?_
    exact x_iret (v := (-1)) (u := ()) hx hb hr rfl hP hD hK hS [0] rfl (by decide) dX12_moves_17 hlocks hQ
  · exact absurd (by decide) c_2

def v_m_ways0 : List Cond := .code yX12_ways cX12_ways 5 (some .int) :: ([] ++ (wsV RX12 454 RX12 yX12_isResult v_m_isResult0))
theorem g_m_ways0_0 : GoodIn v_m_ways0 (wsV RX12 454 RX12 yX12_isResult v_m_isResult0) := goodIn_sub (fun w h => List.mem_cons_of_mem _ (List.mem_append_right _ h)) (by decide +kernel)
set_option maxHeartbeats 4000000 in
set_option maxRecDepth 100000 in
theorem m_ways0 (l : Launch) (D : va_G) (y : Nat → ClassId) (sz : Nat) (h0 : Nat) (ma : Nat → Nat) (mi : Nat → Int32) (mj : Nat → Int64) (k i : Int32) : Met l yX12_ways v_m_ways0 ({ frames := 1, cells := 0, slots := 0, locals := 21 } : Room) (va_Pc [.ref h0, .int k, .int i] (xPre D (xT y) [(h0, .inr (11, mF ma (upd mi 54 0) mj))] sz)) (va_Qi (fun (r : Int32) (_ : Unit) => r = -1) (fun (u : Unit) => xB D (xT y) (va_A [(h0, .inr (11, mF ma (upd mi 54 0) mj))] sz) [(h0, .inr (11, mF ma (upd mi 54 0) mj))]) (va_A [(h0, .inr (11, mF ma (upd mi 54 0) mj))] sz)) 0 0 (va_A [(h0, .inr (11, mF ma (upd mi 54 0) mj))] sz) := by
  refine x_meti (cc := cX12_ways) (maxL := 5) (by decide) rfl (Nat.le_of_ble_eq_true rfl) ?_
  intro p e s m below meth c A H locs Q hx hb hml hown hts hr hlocks hmn hA hP hK hD hS ls hl hQ
  have hl : lv_has ls 5 [(0, .ref h0), (1, .int k), (2, .int i)] := hl
  refine lv_aload_n hx hb dX12_ways_0 rfl (lv_at hl 0 rfl) ?_
  refine lv_iload_n hx hb dX12_ways_1 rfl (lv_at hl 1 rfl) ?_
  refine x_calli (w1 := fun (u : Unit) => [(h0, .inr (11, mF ma (upd (upd mi 54 0) 54 0) mj))]) (wr := []) (ws' := fun (u : Unit) => [(h0, .inr (11, mF ma (upd mi 54 0) mj))]) (va_runV (As := [.int k]) (rest := []) ⟨hx, hb, hml, hown, hts⟩ (m_isResult0 l D y H.size h0 ma (upd mi 54 0) mj k) (cwV 1 hts g_m_ways0_0 rfl rfl rfl (by decide +kernel) ⟨Nat.le_of_ble_eq_true rfl, Nat.le_of_ble_eq_true rfl⟩) (x_preV (q := (RX12, TX12, 85)) hK (x_subP hP [0] rfl) (x_subD hD [0] rfl (by decide)) (ci := 11) (q0 := 0) rfl rfl) rfl rfl hl.1 rfl (lv_room (Nat.le_of_ble_eq_true rfl)) dX12_ways_2 ⟨Nat.le_of_ble_eq_true rfl, Nat.le_of_ble_eq_true rfl⟩) hP hD hS hA [0] [] rfl rfl (by decide) (by decide) [0] (fun _ => rfl) (by decide) (fun r_1 u H locs hw hP hD hS => ?_)
  try dsimp only at hw
  obtain rfl : r_1 = 0 := hw
  have hP : va_P D vwCl [(h0, .inr (11, mF ma (upd mi 54 0) mj))] H := hP
  have hD : va_D A [(h0, .inr (11, mF ma (upd mi 54 0) mj))] := hD
  refine lv_if_eq (tgt := 16) hx hb dX12_ways_5 (by decide) (fun c_2 => ?_) (fun c_2 => ?_)
  · refine lv_iconst (v := (-1)) hx hb dX12_ways_16 (by decide) ?_
    exact x_iret (v := (-1)) (u := ()) hx hb hr rfl hP hD hK hS [0] rfl (by decide) dX12_ways_17 hlocks hQ
  · exact absurd (by decide) c_2

def v_m_groups0 : List Cond := .code yX12_groups cX12_groups 4 (some .int) :: ([.fieldLink RX12 371 "SlopeRunnerModel" "hasRun" "Z"] ++ wsX120)
set_option maxHeartbeats 4000000 in
set_option maxRecDepth 100000 in
theorem m_groups0 (l : Launch) (D : va_G) (y : Nat → ClassId) (sz : Nat) (h0 : Nat) (ma : Nat → Nat) (mi : Nat → Int32) (mj : Nat → Int64) : Met l yX12_groups v_m_groups0 ({ frames := 0, cells := 0, slots := 0, locals := 0 } : Room) (va_Pc [.ref h0] (xPre D (xT y) [(h0, .inr (11, mF ma (upd mi 54 0) mj))] sz)) (va_Qi (fun (r : Int32) (_ : Unit) => r = -1) (fun (u : Unit) => xB D (xT y) (va_A [(h0, .inr (11, mF ma (upd mi 54 0) mj))] sz) [(h0, .inr (11, mF ma (upd mi 54 0) mj))]) (va_A [(h0, .inr (11, mF ma (upd mi 54 0) mj))] sz)) 0 0 (va_A [(h0, .inr (11, mF ma (upd mi 54 0) mj))] sz) := by
  refine x_meti (cc := cX12_groups) (maxL := 4) (by decide) rfl (Nat.le_of_ble_eq_true rfl) ?_
  intro p e s m below meth c A H locs Q hx hb hml hown hts hr hlocks hmn hA hP hK hD hS ls hl hQ
  have hl : lv_has ls 4 [(0, .ref h0)] := hl
  have fl371 := hts (.fieldLink RX12 371 "SlopeRunnerModel" "hasRun" "Z") (by decide +kernel)
  have inX12 : ∀ w ∈ wsX120, w ∈ v_m_groups0 := (fun w h => List.mem_cons_of_mem _ (List.mem_append_right _ h))
  refine lv_aload_n hx hb dX12_groups_0 rfl (lv_at hl 0 rfl) ?_
  refine va_get (D := D) (ci := 11) (v := .int 0) (C := RX12) (T := TX12) (N := 85) hx hb hts inX12 hown hK hP 0 rfl rfl 54 (by decide) fl371 (fun _ h9 => h9) rfl dX12_groups_1 ?_
  refine lv_if_ne (tgt := 9) hx hb dX12_groups_4 (by decide) (fun c_1 => ?_) (fun c_1 => ?_)
  · exact absurd (by decide) c_1
  · refine lv_iconst (v := (-1)) hx hb dX12_groups_7 (by decide) ?_
    exact x_iret (v := (-1)) (u := ()) hx hb hr rfl hP hD hK hS [0] rfl (by decide) dX12_groups_8 hlocks hQ

def v_m_group0 : List Cond := .code yX12_group cX12_group 2 (some .int) :: ([.fieldLink RX12 375 "SlopeRunnerModel" "hasGroups" "Z"] ++ wsX120)
set_option maxHeartbeats 4000000 in
set_option maxRecDepth 100000 in
theorem m_group0 (l : Launch) (D : va_G) (y : Nat → ClassId) (sz : Nat) (h0 : Nat) (ma : Nat → Nat) (mi : Nat → Int32) (mj : Nat → Int64) (k : Int32) : Met l yX12_group v_m_group0 ({ frames := 0, cells := 0, slots := 0, locals := 0 } : Room) (va_Pc [.ref h0, .int k] (xPre D (xT y) [(h0, .inr (11, mF ma (upd mi 78 0) mj))] sz)) (va_Qi (fun (r : Int32) (_ : Unit) => r = -1) (fun (u : Unit) => xB D (xT y) (va_A [(h0, .inr (11, mF ma (upd mi 78 0) mj))] sz) [(h0, .inr (11, mF ma (upd mi 78 0) mj))]) (va_A [(h0, .inr (11, mF ma (upd mi 78 0) mj))] sz)) 0 0 (va_A [(h0, .inr (11, mF ma (upd mi 78 0) mj))] sz) := by
  refine x_meti (cc := cX12_group) (maxL := 2) (by decide) rfl (Nat.le_of_ble_eq_true rfl) ?_
  intro p e s m below meth c A H locs Q hx hb hml hown hts hr hlocks hmn hA hP hK hD hS ls hl hQ
  have hl : lv_has ls 2 [(0, .ref h0), (1, .int k)] := hl
  have fl375 := hts (.fieldLink RX12 375 "SlopeRunnerModel" "hasGroups" "Z") (by decide +kernel)
  have inX12 : ∀ w ∈ wsX120, w ∈ v_m_group0 := (fun w h => List.mem_cons_of_mem _ (List.mem_append_right _ h))
  refine lv_aload_n hx hb dX12_group_0 rfl (lv_at hl 0 rfl) ?_
  refine va_get (D := D) (ci := 11) (v := .int 0) (C := RX12) (T := TX12) (N := 85) hx hb hts inX12 hown hK hP 0 rfl rfl 78 (by decide) fl375 (fun _ h9 => h9) rfl dX12_group_1 ?_
  refine lv_if_eq (tgt := 32) hx hb dX12_group_4 (by decide) (fun c_1 => ?_) (fun c_1 => ?_)
  · refine lv_iconst (v := (-1)) hx hb dX12_group_32 (by decide) ?_
    exact x_iret (v := (-1)) (u := ()) hx hb hr rfl hP hD hK hS [0] rfl (by decide) dX12_group_33 hlocks hQ
  · exact absurd (by decide) c_1

