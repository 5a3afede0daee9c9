theorem dX10_cut_0 : decode cX10_cut 0 = .ok (.aload_n 0, 1) := by decide +kernel
theorem dX10_cut_1 : decode cX10_cut 1 = .ok (.iconst 0, 1) := by decide +kernel
theorem dX10_cut_2 : decode cX10_cut 2 = .ok (.putfield 41, 3) := by decide +kernel
theorem dX10_cut_5 : decode cX10_cut 5 = .ok (.aload_n 0, 1) := by decide +kernel
theorem dX10_cut_6 : decode cX10_cut 6 = .ok (.aload_n 1, 1) := by decide +kernel
theorem dX10_cut_7 : decode cX10_cut 7 = .ok (.invokevirtual 45, 3) := by decide +kernel
theorem dX10_cut_10 : decode cX10_cut 10 = .ok (.putfield 48, 3) := by decide +kernel
theorem dX10_cut_13 : decode cX10_cut 13 = .ok (.iconst 0, 1) := by decide +kernel
theorem dX10_cut_14 : decode cX10_cut 14 = .ok (.istore_n 2, 1) := by decide +kernel
theorem dX10_cut_15 : decode cX10_cut 15 = .ok (.iconst 0, 1) := by decide +kernel
theorem dX10_cut_16 : decode cX10_cut 16 = .ok (.istore_n 3, 1) := by decide +kernel
theorem dX10_cut_17 : decode cX10_cut 17 = .ok (.iload_n 3, 1) := by decide +kernel
theorem dX10_cut_18 : decode cX10_cut 18 = .ok (.sipush 700, 3) := by decide +kernel
theorem dX10_cut_21 : decode cX10_cut 21 = .ok (.if_icmp .ge 24, 3) := by decide +kernel
theorem dX10_cut_24 : decode cX10_cut 24 = .ok (.iload_n 2, 1) := by decide +kernel
theorem dX10_cut_25 : decode cX10_cut 25 = .ok (.aload_n 0, 1) := by decide +kernel
theorem dX10_cut_26 : decode cX10_cut 26 = .ok (.getfield 48, 3) := by decide +kernel
theorem dX10_cut_29 : decode cX10_cut 29 = .ok (.if_icmp .ge 16, 3) := by decide +kernel
theorem dX10_cut_32 : decode cX10_cut 32 = .ok (.aload_n 0, 1) := by decide +kernel
theorem dX10_cut_33 : decode cX10_cut 33 = .ok (.aload_n 1, 1) := by decide +kernel
theorem dX10_cut_34 : decode cX10_cut 34 = .ok (.iload_n 2, 1) := by decide +kernel
theorem dX10_cut_35 : decode cX10_cut 35 = .ok (.invokevirtual 50, 3) := by decide +kernel
theorem dX10_cut_38 : decode cX10_cut 38 = .ok (.istore_n 2, 1) := by decide +kernel
theorem dX10_cut_39 : decode cX10_cut 39 = .ok (.iinc 3 1, 3) := by decide +kernel
theorem dX10_cut_42 : decode cX10_cut 42 = .ok (.goto (-25), 3) := by decide +kernel
theorem dX10_cut_45 : decode cX10_cut 45 = .ok (.return_, 1) := by decide +kernel
theorem dX5_statements_0 : decode cX5_statements 0 = .ok (.iconst 0, 1) := by decide +kernel
theorem dX5_statements_1 : decode cX5_statements 1 = .ok (.istore_n 2, 1) := by decide +kernel
theorem dX5_statements_2 : decode cX5_statements 2 = .ok (.iload_n 2, 1) := by decide +kernel
theorem dX5_statements_3 : decode cX5_statements 3 = .ok (.bipush 80, 2) := by decide +kernel
theorem dX5_statements_5 : decode cX5_statements 5 = .ok (.if_icmp .gt 76, 3) := by decide +kernel
theorem dX5_statements_8 : decode cX5_statements 8 = .ok (.aload_n 0, 1) := by decide +kernel
theorem dX5_statements_9 : decode cX5_statements 9 = .ok (.getfield 45, 3) := by decide +kernel
theorem dX5_statements_12 : decode cX5_statements 12 = .ok (.sipush 256, 3) := by decide +kernel
theorem dX5_statements_15 : decode cX5_statements 15 = .ok (.if_icmp .ne 17, 3) := by decide +kernel
theorem dX5_statements_18 : decode cX5_statements 18 = .ok (.iload_n 1, 1) := by decide +kernel
theorem dX5_statements_19 : decode cX5_statements 19 = .ok (.ifCond .eq 11, 3) := by decide +kernel
theorem dX5_statements_22 : decode cX5_statements 22 = .ok (.aload_n 0, 1) := by decide +kernel
theorem dX5_statements_23 : decode cX5_statements 23 = .ok (.iconst 1, 1) := by decide +kernel
theorem dX5_statements_24 : decode cX5_statements 24 = .ok (.invokevirtual 61, 3) := by decide +kernel
theorem dX5_statements_27 : decode cX5_statements 27 = .ok (.goto 4, 3) := by decide +kernel
theorem dX5_statements_30 : decode cX5_statements 30 = .ok (.iconst 1, 1) := by decide +kernel
theorem dX5_statements_31 : decode cX5_statements 31 = .ok (.ireturn, 1) := by decide +kernel
theorem dX5_statements_32 : decode cX5_statements 32 = .ok (.iload_n 1, 1) := by decide +kernel
theorem dX5_statements_33 : decode cX5_statements 33 = .ok (.ifCond .eq 14, 3) := by decide +kernel
theorem dX5_statements_36 : decode cX5_statements 36 = .ok (.aload_n 0, 1) := by decide +kernel
theorem dX5_statements_37 : decode cX5_statements 37 = .ok (.getfield 45, 3) := by decide +kernel
theorem dX5_statements_40 : decode cX5_statements 40 = .ok (.bipush 125, 2) := by decide +kernel
theorem dX5_statements_42 : decode cX5_statements 42 = .ok (.if_icmp .ne 5, 3) := by decide +kernel
theorem dX5_statements_45 : decode cX5_statements 45 = .ok (.iconst 1, 1) := by decide +kernel
theorem dX5_statements_46 : decode cX5_statements 46 = .ok (.ireturn, 1) := by decide +kernel
theorem dX5_statements_47 : decode cX5_statements 47 = .ok (.aload_n 0, 1) := by decide +kernel
theorem dX5_statements_48 : decode cX5_statements 48 = .ok (.getfield 34, 3) := by decide +kernel
theorem dX5_statements_51 : decode cX5_statements 51 = .ok (.getfield 65, 3) := by decide +kernel
theorem dX5_statements_54 : decode cX5_statements 54 = .ok (.bipush 80, 2) := by decide +kernel
theorem dX5_statements_56 : decode cX5_statements 56 = .ok (.if_icmp .lt 9, 3) := by decide +kernel
theorem dX5_statements_59 : decode cX5_statements 59 = .ok (.aload_n 0, 1) := by decide +kernel
theorem dX5_statements_60 : decode cX5_statements 60 = .ok (.iconst 5, 1) := by decide +kernel
theorem dX5_statements_61 : decode cX5_statements 61 = .ok (.invokevirtual 61, 3) := by decide +kernel
theorem dX5_statements_64 : decode cX5_statements 64 = .ok (.ireturn, 1) := by decide +kernel
theorem dX5_statements_65 : decode cX5_statements 65 = .ok (.aload_n 0, 1) := by decide +kernel
theorem dX5_statements_66 : decode cX5_statements 66 = .ok (.iload_n 1, 1) := by decide +kernel
theorem dX5_statements_67 : decode cX5_statements 67 = .ok (.invokevirtual 67, 3) := by decide +kernel
theorem dX5_statements_70 : decode cX5_statements 70 = .ok (.ifCond .ne 5, 3) := by decide +kernel
theorem dX5_statements_73 : decode cX5_statements 73 = .ok (.iconst 0, 1) := by decide +kernel
theorem dX5_statements_74 : decode cX5_statements 74 = .ok (.ireturn, 1) := by decide +kernel
theorem dX5_statements_75 : decode cX5_statements 75 = .ok (.iinc 2 1, 3) := by decide +kernel
theorem dX5_statements_78 : decode cX5_statements 78 = .ok (.goto (-76), 3) := by decide +kernel
theorem dX5_statements_81 : decode cX5_statements 81 = .ok (.aload_n 0, 1) := by decide +kernel
theorem dX5_statements_82 : decode cX5_statements 82 = .ok (.iconst 5, 1) := by decide +kernel
theorem dX5_statements_83 : decode cX5_statements 83 = .ok (.invokevirtual 61, 3) := by decide +kernel
theorem dX5_statements_86 : decode cX5_statements 86 = .ok (.ireturn, 1) := by decide +kernel
theorem dX5_read_0 : decode cX5_read 0 = .ok (.aload_n 0, 1) := by decide +kernel
theorem dX5_read_1 : decode cX5_read 1 = .ok (.getfield 12, 3) := by decide +kernel
theorem dX5_read_4 : decode cX5_read 4 = .ok (.aload_n 1, 1) := by decide +kernel
theorem dX5_read_5 : decode cX5_read 5 = .ok (.invokevirtual 25, 3) := by decide +kernel
theorem dX5_read_8 : decode cX5_read 8 = .ok (.aload_n 2, 1) := by decide +kernel
theorem dX5_read_9 : decode cX5_read 9 = .ok (.invokevirtual 29, 3) := by decide +kernel
theorem dX5_read_12 : decode cX5_read 12 = .ok (.aload_n 0, 1) := by decide +kernel
theorem dX5_read_13 : decode cX5_read 13 = .ok (.aload_n 2, 1) := by decide +kernel
theorem dX5_read_14 : decode cX5_read 14 = .ok (.putfield 34, 3) := by decide +kernel
theorem dX5_read_17 : decode cX5_read 17 = .ok (.aload_n 0, 1) := by decide +kernel
theorem dX5_read_18 : decode cX5_read 18 = .ok (.iconst 0, 1) := by decide +kernel
theorem dX5_read_19 : decode cX5_read 19 = .ok (.putfield 38, 3) := by decide +kernel
theorem dX5_read_22 : decode cX5_read 22 = .ok (.aload_n 0, 1) := by decide +kernel
theorem dX5_read_23 : decode cX5_read 23 = .ok (.aload_n 0, 1) := by decide +kernel
theorem dX5_read_24 : decode cX5_read 24 = .ok (.getfield 12, 3) := by decide +kernel
theorem dX5_read_27 : decode cX5_read 27 = .ok (.iconst 0, 1) := by decide +kernel
theorem dX5_read_28 : decode cX5_read 28 = .ok (.invokevirtual 41, 3) := by decide +kernel
theorem dX5_read_31 : decode cX5_read 31 = .ok (.putfield 45, 3) := by decide +kernel
theorem dX5_read_34 : decode cX5_read 34 = .ok (.aload_n 0, 1) := by decide +kernel
theorem dX5_read_35 : decode cX5_read 35 = .ok (.iconst 0, 1) := by decide +kernel
theorem dX5_read_36 : decode cX5_read 36 = .ok (.putfield 48, 3) := by decide +kernel
theorem dX5_read_39 : decode cX5_read 39 = .ok (.aload_n 0, 1) := by decide +kernel
theorem dX5_read_40 : decode cX5_read 40 = .ok (.iconst 0, 1) := by decide +kernel
theorem dX5_read_41 : decode cX5_read 41 = .ok (.putfield 22, 3) := by decide +kernel
theorem dX5_read_44 : decode cX5_read 44 = .ok (.aload_n 0, 1) := by decide +kernel
theorem dX5_read_45 : decode cX5_read 45 = .ok (.iconst (-1), 1) := by decide +kernel
theorem dX5_read_46 : decode cX5_read 46 = .ok (.putfield 18, 3) := by decide +kernel
theorem dX5_read_49 : decode cX5_read 49 = .ok (.aload_n 0, 1) := by decide +kernel
theorem dX5_read_50 : decode cX5_read 50 = .ok (.iconst 0, 1) := by decide +kernel
theorem dX5_read_51 : decode cX5_read 51 = .ok (.invokevirtual 51, 3) := by decide +kernel
theorem dX5_read_54 : decode cX5_read 54 = .ok (.ifCond .eq 5, 3) := by decide +kernel
theorem dX5_read_57 : decode cX5_read 57 = .ok (.iconst 1, 1) := by decide +kernel
theorem dX5_read_58 : decode cX5_read 58 = .ok (.ireturn, 1) := by decide +kernel
theorem dX5_read_59 : decode cX5_read 59 = .ok (.aload_n 0, 1) := by decide +kernel
theorem dX5_read_60 : decode cX5_read 60 = .ok (.aload_n 0, 1) := by decide +kernel
theorem dX5_read_61 : decode cX5_read 61 = .ok (.getfield 12, 3) := by decide +kernel
theorem dX5_read_64 : decode cX5_read 64 = .ok (.aload_n 0, 1) := by decide +kernel
theorem dX5_read_65 : decode cX5_read 65 = .ok (.getfield 38, 3) := by decide +kernel
theorem dX5_read_68 : decode cX5_read 68 = .ok (.invokevirtual 55, 3) := by decide +kernel
theorem dX5_read_71 : decode cX5_read 71 = .ok (.aload_n 0, 1) := by decide +kernel
theorem dX5_read_72 : decode cX5_read 72 = .ok (.getfield 58, 3) := by decide +kernel
theorem dX5_read_75 : decode cX5_read 75 = .ok (.iadd, 1) := by decide +kernel
theorem dX5_read_76 : decode cX5_read 76 = .ok (.putfield 18, 3) := by decide +kernel
theorem dX5_read_79 : decode cX5_read 79 = .ok (.iconst 0, 1) := by decide +kernel
theorem dX5_read_80 : decode cX5_read 80 = .ok (.ireturn, 1) := by decide +kernel
theorem dX8_begin_0 : decode cX8_begin 0 = .ok (.aload_n 0, 1) := by decide +kernel
theorem dX8_begin_1 : decode cX8_begin 1 = .ok (.invokevirtual 56, 3) := by decide +kernel
theorem dX8_begin_4 : decode cX8_begin 4 = .ok (.aload_n 0, 1) := by decide +kernel
theorem dX8_begin_5 : decode cX8_begin 5 = .ok (.bipush (-2), 2) := by decide +kernel
theorem dX8_begin_7 : decode cX8_begin 7 = .ok (.putfield 28, 3) := by decide +kernel
theorem dX8_begin_10 : decode cX8_begin 10 = .ok (.aload_n 0, 1) := by decide +kernel
theorem dX8_begin_11 : decode cX8_begin 11 = .ok (.aload_n 1, 1) := by decide +kernel
theorem dX8_begin_12 : decode cX8_begin 12 = .ok (.getfield 59, 3) := by decide +kernel
theorem dX8_begin_15 : decode cX8_begin 15 = .ok (.putfield 38, 3) := by decide +kernel
theorem dX8_begin_18 : decode cX8_begin 18 = .ok (.aload_n 0, 1) := by decide +kernel
theorem dX8_begin_19 : decode cX8_begin 19 = .ok (.aload_n 0, 1) := by decide +kernel
theorem dX8_begin_20 : decode cX8_begin 20 = .ok (.getfield 38, 3) := by decide +kernel
theorem dX8_begin_23 : decode cX8_begin 23 = .ok (.iconst 1, 1) := by decide +kernel
theorem dX8_begin_24 : decode cX8_begin 24 = .ok (.iadd, 1) := by decide +kernel
theorem dX8_begin_25 : decode cX8_begin 25 = .ok (.aload_n 1, 1) := by decide +kernel
theorem dX8_begin_26 : decode cX8_begin 26 = .ok (.getfield 60, 3) := by decide +kernel
theorem dX8_begin_29 : decode cX8_begin 29 = .ok (.iadd, 1) := by decide +kernel
theorem dX8_begin_30 : decode cX8_begin 30 = .ok (.putfield 41, 3) := by decide +kernel
theorem dX8_begin_33 : decode cX8_begin 33 = .ok (.aload_n 0, 1) := by decide +kernel
theorem dX8_begin_34 : decode cX8_begin 34 = .ok (.aload_n 0, 1) := by decide +kernel
theorem dX8_begin_35 : decode cX8_begin 35 = .ok (.getfield 41, 3) := by decide +kernel
theorem dX8_begin_38 : decode cX8_begin 38 = .ok (.putfield 44, 3) := by decide +kernel
theorem dX8_begin_41 : decode cX8_begin 41 = .ok (.iconst 0, 1) := by decide +kernel
theorem dX8_begin_42 : decode cX8_begin 42 = .ok (.istore_n 3, 1) := by decide +kernel
theorem dX8_begin_43 : decode cX8_begin 43 = .ok (.iload_n 3, 1) := by decide +kernel
theorem dX8_begin_44 : decode cX8_begin 44 = .ok (.aload_n 0, 1) := by decide +kernel
theorem dX8_begin_45 : decode cX8_begin 45 = .ok (.getfield 38, 3) := by decide +kernel
theorem dX8_begin_48 : decode cX8_begin 48 = .ok (.if_icmp .ge 24, 3) := by decide +kernel
theorem dX8_begin_51 : decode cX8_begin 51 = .ok (.iload_n 3, 1) := by decide +kernel
theorem dX8_begin_52 : decode cX8_begin 52 = .ok (.aload_n 2, 1) := by decide +kernel
theorem dX8_begin_53 : decode cX8_begin 53 = .ok (.arraylength, 1) := by decide +kernel
theorem dX8_begin_54 : decode cX8_begin 54 = .ok (.if_icmp .ge 18, 3) := by decide +kernel
theorem dX8_begin_57 : decode cX8_begin 57 = .ok (.aload_n 0, 1) := by decide +kernel
theorem dX8_begin_58 : decode cX8_begin 58 = .ok (.getfield 11, 3) := by decide +kernel
theorem dX8_begin_61 : decode cX8_begin 61 = .ok (.iload_n 3, 1) := by decide +kernel
theorem dX8_begin_62 : decode cX8_begin 62 = .ok (.aload_n 2, 1) := by decide +kernel
theorem dX8_begin_63 : decode cX8_begin 63 = .ok (.iload_n 3, 1) := by decide +kernel
theorem dX8_begin_64 : decode cX8_begin 64 = .ok (.laload, 1) := by decide +kernel
theorem dX8_begin_65 : decode cX8_begin 65 = .ok (.lastore, 1) := by decide +kernel
theorem dX8_begin_66 : decode cX8_begin 66 = .ok (.iinc 3 1, 3) := by decide +kernel
theorem dX8_begin_69 : decode cX8_begin 69 = .ok (.goto (-26), 3) := by decide +kernel
theorem dX8_begin_72 : decode cX8_begin 72 = .ok (.aload_n 0, 1) := by decide +kernel
theorem dX8_begin_73 : decode cX8_begin 73 = .ok (.getfield 11, 3) := by decide +kernel
theorem dX8_begin_76 : decode cX8_begin 76 = .ok (.aload_n 0, 1) := by decide +kernel
theorem dX8_begin_77 : decode cX8_begin 77 = .ok (.invokevirtual 63, 3) := by decide +kernel
theorem dX8_begin_80 : decode cX8_begin 80 = .ok (.lconst 1, 1) := by decide +kernel
theorem dX8_begin_81 : decode cX8_begin 81 = .ok (.lastore, 1) := by decide +kernel
theorem dX8_begin_82 : decode cX8_begin 82 = .ok (.iconst 0, 1) := by decide +kernel
theorem dX8_begin_83 : decode cX8_begin 83 = .ok (.istore_n 3, 1) := by decide +kernel
theorem dX8_begin_84 : decode cX8_begin 84 = .ok (.iload_n 3, 1) := by decide +kernel
theorem dX8_begin_85 : decode cX8_begin 85 = .ok (.aload_n 1, 1) := by decide +kernel
theorem dX8_begin_86 : decode cX8_begin 86 = .ok (.getfield 60, 3) := by decide +kernel
theorem dX8_begin_89 : decode cX8_begin 89 = .ok (.if_icmp .ge 29, 3) := by decide +kernel
theorem dX8_begin_92 : decode cX8_begin 92 = .ok (.aload_n 0, 1) := by decide +kernel
theorem dX8_begin_93 : decode cX8_begin 93 = .ok (.getfield 11, 3) := by decide +kernel
theorem dX8_begin_96 : decode cX8_begin 96 = .ok (.aload_n 0, 1) := by decide +kernel
theorem dX8_begin_97 : decode cX8_begin 97 = .ok (.iload_n 3, 1) := by decide +kernel
theorem dX8_begin_98 : decode cX8_begin 98 = .ok (.invokevirtual 67, 3) := by decide +kernel
theorem dX8_begin_101 : decode cX8_begin 101 = .ok (.aload_n 1, 1) := by decide +kernel
theorem dX8_begin_102 : decode cX8_begin 102 = .ok (.iload_n 3, 1) := by decide +kernel
theorem dX8_begin_103 : decode cX8_begin 103 = .ok (.invokevirtual 71, 3) := by decide +kernel
theorem dX8_begin_106 : decode cX8_begin 106 = .ok (.i2l, 1) := by decide +kernel
theorem dX8_begin_107 : decode cX8_begin 107 = .ok (.lconst 1, 1) := by decide +kernel
theorem dX8_begin_108 : decode cX8_begin 108 = .ok (.invokestatic 72, 3) := by decide +kernel
theorem dX8_begin_111 : decode cX8_begin 111 = .ok (.lastore, 1) := by decide +kernel
theorem dX8_begin_112 : decode cX8_begin 112 = .ok (.iinc 3 1, 3) := by decide +kernel
theorem dX8_begin_115 : decode cX8_begin 115 = .ok (.goto (-31), 3) := by decide +kernel
theorem dX8_begin_118 : decode cX8_begin 118 = .ok (.return_, 1) := by decide +kernel
theorem dX4_play_0 : decode cX4_play 0 = .ok (.aload_n 0, 1) := by decide +kernel
theorem dX4_play_1 : decode cX4_play 1 = .ok (.aload_n 1, 1) := by decide +kernel
theorem dX4_play_2 : decode cX4_play 2 = .ok (.putfield 20, 3) := by decide +kernel
theorem dX4_play_5 : decode cX4_play 5 = .ok (.aload_n 0, 1) := by decide +kernel
theorem dX4_play_6 : decode cX4_play 6 = .ok (.aload_n 2, 1) := by decide +kernel
theorem dX4_play_7 : decode cX4_play 7 = .ok (.putfield 24, 3) := by decide +kernel
theorem dX4_play_10 : decode cX4_play 10 = .ok (.aload_n 0, 1) := by decide +kernel
theorem dX4_play_11 : decode cX4_play 11 = .ok (.iconst 0, 1) := by decide +kernel
theorem dX4_play_12 : decode cX4_play 12 = .ok (.putfield 28, 3) := by decide +kernel
theorem dX4_play_15 : decode cX4_play 15 = .ok (.aload_n 0, 1) := by decide +kernel
theorem dX4_play_16 : decode cX4_play 16 = .ok (.iconst 0, 1) := by decide +kernel
theorem dX4_play_17 : decode cX4_play 17 = .ok (.putfield 32, 3) := by decide +kernel
theorem dX4_play_20 : decode cX4_play 20 = .ok (.iconst 0, 1) := by decide +kernel
theorem dX4_play_21 : decode cX4_play 21 = .ok (.istore_n 3, 1) := by decide +kernel
theorem dX4_play_22 : decode cX4_play 22 = .ok (.iload_n 3, 1) := by decide +kernel
theorem dX4_play_23 : decode cX4_play 23 = .ok (.aload_n 0, 1) := by decide +kernel
theorem dX4_play_24 : decode cX4_play 24 = .ok (.getfield 17, 3) := by decide +kernel
theorem dX4_play_27 : decode cX4_play 27 = .ok (.arraylength, 1) := by decide +kernel
theorem dX4_play_28 : decode cX4_play 28 = .ok (.if_icmp .ge 37, 3) := by decide +kernel
theorem dX4_play_31 : decode cX4_play 31 = .ok (.aload_n 0, 1) := by decide +kernel
theorem dX4_play_32 : decode cX4_play 32 = .ok (.getfield 17, 3) := by decide +kernel
theorem dX4_play_35 : decode cX4_play 35 = .ok (.iload_n 3, 1) := by decide +kernel
theorem dX4_play_36 : decode cX4_play 36 = .ok (.iload_n 3, 1) := by decide +kernel
theorem dX4_play_37 : decode cX4_play 37 = .ok (.aload_n 0, 1) := by decide +kernel
theorem dX4_play_38 : decode cX4_play 38 = .ok (.getfield 20, 3) := by decide +kernel
theorem dX4_play_41 : decode cX4_play 41 = .ok (.getfield 35, 3) := by decide +kernel
theorem dX4_play_44 : decode cX4_play 44 = .ok (.if_icmp .ge 7, 3) := by decide +kernel
theorem dX4_play_47 : decode cX4_play 47 = .ok (.iload_n 3, 1) := by decide +kernel
theorem dX4_play_48 : decode cX4_play 48 = .ok (.goto 10, 3) := by decide +kernel
theorem dX4_play_51 : decode cX4_play 51 = .ok (.aload_n 0, 1) := by decide +kernel
theorem dX4_play_52 : decode cX4_play 52 = .ok (.getfield 24, 3) := by decide +kernel
theorem dX4_play_55 : decode cX4_play 55 = .ok (.invokevirtual 38, 3) := by decide +kernel
theorem dX4_play_58 : decode cX4_play 58 = .ok (.iastore, 1) := by decide +kernel
theorem dX4_play_59 : decode cX4_play 59 = .ok (.iinc 3 1, 3) := by decide +kernel
theorem dX4_play_62 : decode cX4_play 62 = .ok (.goto (-40), 3) := by decide +kernel
theorem dX4_play_65 : decode cX4_play 65 = .ok (.iconst 0, 1) := by decide +kernel
theorem dX4_play_66 : decode cX4_play 66 = .ok (.istore_n 3, 1) := by decide +kernel
theorem dX4_play_67 : decode cX4_play 67 = .ok (.iload_n 3, 1) := by decide +kernel
theorem dX4_play_68 : decode cX4_play 68 = .ok (.ldc 44, 2) := by decide +kernel
theorem dX4_play_70 : decode cX4_play 70 = .ok (.if_icmp .ge 115, 3) := by decide +kernel
theorem dX4_play_73 : decode cX4_play 73 = .ok (.aload_n 0, 1) := by decide +kernel
theorem dX4_play_74 : decode cX4_play 74 = .ok (.getfield 24, 3) := by decide +kernel
theorem dX4_play_77 : decode cX4_play 77 = .ok (.getfield 45, 3) := by decide +kernel
theorem dX4_play_80 : decode cX4_play 80 = .ok (.bipush (-2), 2) := by decide +kernel
theorem dX4_play_82 : decode cX4_play 82 = .ok (.if_icmp .ne 103, 3) := by decide +kernel
theorem dX4_play_85 : decode cX4_play 85 = .ok (.aload_n 0, 1) := by decide +kernel
theorem dX4_play_86 : decode cX4_play 86 = .ok (.getfield 20, 3) := by decide +kernel
theorem dX4_play_89 : decode cX4_play 89 = .ok (.aload_n 0, 1) := by decide +kernel
theorem dX4_play_90 : decode cX4_play 90 = .ok (.getfield 32, 3) := by decide +kernel
theorem dX4_play_93 : decode cX4_play 93 = .ok (.invokevirtual 48, 3) := by decide +kernel
theorem dX4_play_96 : decode cX4_play 96 = .ok (.istore 4, 2) := by decide +kernel
theorem dX4_play_98 : decode cX4_play 98 = .ok (.aload_n 0, 1) := by decide +kernel
theorem dX4_play_99 : decode cX4_play 99 = .ok (.getfield 20, 3) := by decide +kernel
theorem dX4_play_102 : decode cX4_play 102 = .ok (.aload_n 0, 1) := by decide +kernel
theorem dX4_play_103 : decode cX4_play 103 = .ok (.getfield 32, 3) := by decide +kernel
theorem dX4_play_106 : decode cX4_play 106 = .ok (.invokevirtual 52, 3) := by decide +kernel
theorem dX4_play_109 : decode cX4_play 109 = .ok (.istore 5, 2) := by decide +kernel
theorem dX4_play_111 : decode cX4_play 111 = .ok (.aload_n 0, 1) := by decide +kernel
theorem dX4_play_112 : decode cX4_play 112 = .ok (.dup, 1) := by decide +kernel
theorem dX4_play_113 : decode cX4_play 113 = .ok (.getfield 32, 3) := by decide +kernel
theorem dX4_play_116 : decode cX4_play 116 = .ok (.iconst 1, 1) := by decide +kernel
theorem dX4_play_117 : decode cX4_play 117 = .ok (.iadd, 1) := by decide +kernel
theorem dX4_play_118 : decode cX4_play 118 = .ok (.putfield 32, 3) := by decide +kernel
theorem dX4_play_121 : decode cX4_play 121 = .ok (.iload 4, 2) := by decide +kernel
theorem dX4_play_123 : decode cX4_play 123 = .ok (.iconst (-1), 1) := by decide +kernel
theorem dX4_play_124 : decode cX4_play 124 = .ok (.if_icmp .ne 14, 3) := by decide +kernel
theorem dX4_play_127 : decode cX4_play 127 = .ok (.aload_n 0, 1) := by decide +kernel
theorem dX4_play_128 : decode cX4_play 128 = .ok (.getfield 24, 3) := by decide +kernel
theorem dX4_play_131 : decode cX4_play 131 = .ok (.iconst 0, 1) := by decide +kernel
theorem dX4_play_132 : decode cX4_play 132 = .ok (.putfield 45, 3) := by decide +kernel
theorem dX4_play_135 : decode cX4_play 135 = .ok (.goto 44, 3) := by decide +kernel
theorem dX4_play_138 : decode cX4_play 138 = .ok (.iload 4, 2) := by decide +kernel
theorem dX4_play_140 : decode cX4_play 140 = .ok (.iconst 5, 1) := by decide +kernel
theorem dX4_play_141 : decode cX4_play 141 = .ok (.if_icmp .gt 14, 3) := by decide +kernel
theorem dX4_play_144 : decode cX4_play 144 = .ok (.aload_n 0, 1) := by decide +kernel
theorem dX4_play_145 : decode cX4_play 145 = .ok (.iload 4, 2) := by decide +kernel
theorem dX4_play_147 : decode cX4_play 147 = .ok (.iload 5, 2) := by decide +kernel
theorem dX4_play_149 : decode cX4_play 149 = .ok (.invokevirtual 55, 3) := by decide +kernel
theorem dX4_play_152 : decode cX4_play 152 = .ok (.goto 27, 3) := by decide +kernel
theorem dX4_play_155 : decode cX4_play 155 = .ok (.iload 4, 2) := by decide +kernel
theorem dX4_play_157 : decode cX4_play 157 = .ok (.bipush 15, 2) := by decide +kernel
theorem dX4_play_159 : decode cX4_play 159 = .ok (.if_icmp .gt 12, 3) := by decide +kernel
theorem dX4_play_162 : decode cX4_play 162 = .ok (.aload_n 0, 1) := by decide +kernel
theorem dX4_play_163 : decode cX4_play 163 = .ok (.iload 4, 2) := by decide +kernel
theorem dX4_play_165 : decode cX4_play 165 = .ok (.invokevirtual 59, 3) := by decide +kernel
theorem dX4_play_168 : decode cX4_play 168 = .ok (.goto 11, 3) := by decide +kernel
theorem dX4_play_171 : decode cX4_play 171 = .ok (.aload_n 0, 1) := by decide +kernel
theorem dX4_play_172 : decode cX4_play 172 = .ok (.iload 4, 2) := by decide +kernel
theorem dX4_play_174 : decode cX4_play 174 = .ok (.iload 5, 2) := by decide +kernel
theorem dX4_play_176 : decode cX4_play 176 = .ok (.invokevirtual 63, 3) := by decide +kernel
theorem dX4_play_179 : decode cX4_play 179 = .ok (.iinc 3 1, 3) := by decide +kernel
theorem dX4_play_182 : decode cX4_play 182 = .ok (.goto (-115), 3) := by decide +kernel
theorem dX4_play_185 : decode cX4_play 185 = .ok (.aload_n 0, 1) := by decide +kernel
theorem dX4_play_186 : decode cX4_play 186 = .ok (.getfield 24, 3) := by decide +kernel
theorem dX4_play_189 : decode cX4_play 189 = .ok (.getfield 45, 3) := by decide +kernel
theorem dX4_play_192 : decode cX4_play 192 = .ok (.ireturn, 1) := by decide +kernel
def v_c_Tokens_cut0 : List Cond := .code yX10_cut cX10_cut 4 none :: ([.fieldLink RX10 41 "SlopeRunner$Tokens" "count" "I", .fieldLink RX10 48 "SlopeRunner$Tokens" "length" "I"] ++ ((wsV RX10 45 RX9 yX9_size v_c_Text_size) ++ wsX100))
theorem g_c_Tokens_cut0_0 : GoodIn v_c_Tokens_cut0 (wsV RX10 45 RX9 yX9_size v_c_Text_size) := goodIn_sub (fun w h => List.mem_cons_of_mem _ (List.mem_append_right _ (List.mem_append_left _ h))) (by decide +kernel)
set_option maxHeartbeats 4000000 in
set_option maxRecDepth 100000 in
theorem c_Tokens_cut0 (l : Launch) (D : va_G) (y : Nat → ClassId) (sz : Nat) (k0 b0 b1 b2 b3 t0 t1 : Nat) (kc kl : Int32) (tf : Nat → Int32) : Met l yX10_cut v_c_Tokens_cut0 ({ frames := 1, cells := 0, slots := 0, locals := 20 } : Room) (va_Pc [.ref k0, .ref t0] (xPre D (xT y) [(k0, .inr (9, [.ref b0, .ref b1, .ref b2, .ref b3, .int kc, .int kl])), (t0, .inr (8, [.ref t1, .int 0])), (t1, .inl (y 0, 700, .inl tf))] sz)) (va_Qv (fun (_ : Unit) => True) (fun (u : Unit) => xB D (xT y) (va_A [(k0, .inr (9, [.ref b0, .ref b1, .ref b2, .ref b3, .int kc, .int kl])), (t0, .inr (8, [.ref t1, .int 0])), (t1, .inl (y 0, 700, .inl tf))] sz) [(k0, .inr (9, [.ref b0, .ref b1, .ref b2, .ref b3, .int 0, .int 0])), (t0, .inr (8, [.ref t1, .int 0])), (t1, .inl (y 0, 700, .inl tf))]) (va_A [(k0, .inr (9, [.ref b0, .ref b1, .ref b2, .ref b3, .int kc, .int kl])), (t0, .inr (8, [.ref t1, .int 0])), (t1, .inl (y 0, 700, .inl tf))] sz)) 0 0 (va_A [(k0, .inr (9, [.ref b0, .ref b1, .ref b2, .ref b3, .int kc, .int kl])), (t0, .inr (8, [.ref t1, .int 0])), (t1, .inl (y 0, 700, .inl tf))] sz) := by
  refine x_metv (cc := cX10_cut) (maxL := 4) (by decide) rfl (Nat.le_of_ble_eq_true rfl) ?_
  intro p e s m below meth c A H locs Q hx hb hml hown hts hr hlocks hmn hA hP hK hD hS ls hl hQ
  have hl : lv_has ls 4 [(0, .ref k0), (1, .ref t0)] := hl
  have fl41 := hts (.fieldLink RX10 41 "SlopeRunner$Tokens" "count" "I") (by decide +kernel)
  have inX10 : ∀ w ∈ wsX100, w ∈ v_c_Tokens_cut0 := (fun w h => List.mem_cons_of_mem _ (List.mem_append_right _ (List.mem_append_right _ h)))
  have fl48 := hts (.fieldLink RX10 48 "SlopeRunner$Tokens" "length" "I") (by decide +kernel)
  refine lv_aload_n hx hb dX10_cut_0 rfl (lv_at hl 0 rfl) ?_
  refine lv_iconst (v := 0) hx hb dX10_cut_1 (by decide) ?_
  refine va_put (D := D) (ci := 9) (v := .int 0) (ty := .int) (C := RX10) (T := TX10) (N := 6) hx hb hts inX10 tyX10 tyX10_ok nmX10 hown hK hP hD hS 0 rfl rfl 4 (by decide) fl41 (fun _ h9 => h9) rfl (by decide +kernel) rfl rfl (Nat.le_of_ble_eq_true rfl) dX10_cut_2 (fun H locs hP hD hS => ?_)
  have hP : va_P D vwCl [(k0, .inr (9, [.ref b0, .ref b1, .ref b2, .ref b3, .int 0, .int kl])), (t0, .inr (8, [.ref t1, .int 0])), (t1, .inl (y 0, 700, .inl tf))] H := hP
  have hD : va_D A [(k0, .inr (9, [.ref b0, .ref b1, .ref b2, .ref b3, .int 0, .int kl])), (t0, .inr (8, [.ref t1, .int 0])), (t1, .inl (y 0, 700, .inl tf))] := hD
  refine lv_aload_n hx hb dX10_cut_5 rfl (lv_at hl 0 rfl) ?_
  refine lv_aload_n hx hb dX10_cut_6 rfl (lv_at hl 1 rfl) ?_
  refine x_calli (w1 := fun (u : Unit) => [(t0, .inr (8, [.ref t1, .int 0])), (t1, .inl (y 0, 700, .inl tf))]) (wr := [(k0, .inr (9, [.ref b0, .ref b1, .ref b2, .ref b3, .int 0, .int kl]))]) (ws' := fun (u : Unit) => [(k0, .inr (9, [.ref b0, .ref b1, .ref b2, .ref b3, .int 0, .int kl])), (t0, .inr (8, [.ref t1, .int 0])), (t1, .inl (y 0, 700, .inl tf))]) (va_runV (As := []) (rest := [.ref k0]) ⟨hx, hb, hml, hown, hts⟩ (c_Text_size l D y H.size t0 t1 tf 0 (by (try dsimp only); (try simp only [lg_cmp_lt, lg_cmp_le, lg_cmp_gt, lg_cmp_ge] at *); (try simp only [x_lt, x_le, Int32.reduceToInt, x_ltL, x_leL, Int64.reduceToInt] at *); omega) (by (try dsimp only); (try simp only [lg_cmp_lt, lg_cmp_le, lg_cmp_gt, lg_cmp_ge] at *); (try simp only [x_lt, x_le, Int32.reduceToInt, x_ltL, x_leL, Int64.reduceToInt] at *); omega)) (cwV 0 hts g_c_Tokens_cut0_0 rfl rfl rfl (by decide +kernel) ⟨Nat.le_of_ble_eq_true rfl, Nat.le_of_ble_eq_true rfl⟩) (x_preV (q := (RX9, TX9, 2)) hK (x_subP hP [1, 2] rfl) (x_subD hD [1, 2] rfl (by decide)) (ci := 8) (q0 := 0) rfl rfl) rfl rfl hl.1 rfl (lv_room (Nat.le_of_ble_eq_true rfl)) dX10_cut_7 ⟨Nat.le_of_ble_eq_true rfl, Nat.le_of_ble_eq_true rfl⟩) hP hD hS hA [1, 2] [0] rfl rfl (by decide) (by decide) [0, 1, 2] (fun _ => rfl) (by decide) (fun r_1 u H locs hw hP hD hS => ?_)
  try dsimp only at hw
  obtain rfl : r_1 = 0 := hw
  have hP : va_P D vwCl [(k0, .inr (9, [.ref b0, .ref b1, .ref b2, .ref b3, .int 0, .int kl])), (t0, .inr (8, [.ref t1, .int 0])), (t1, .inl (y 0, 700, .inl tf))] H := hP
  have hD : va_D A [(k0, .inr (9, [.ref b0, .ref b1, .ref b2, .ref b3, .int 0, .int kl])), (t0, .inr (8, [.ref t1, .int 0])), (t1, .inl (y 0, 700, .inl tf))] := hD
  refine va_put (D := D) (ci := 9) (v := .int 0) (ty := .int) (C := RX10) (T := TX10) (N := 6) hx hb hts inX10 tyX10 tyX10_ok nmX10 hown hK hP hD hS 0 rfl rfl 5 (by decide) fl48 (fun _ h9 => h9) rfl (by decide +kernel) rfl rfl (Nat.le_of_ble_eq_true rfl) dX10_cut_10 (fun H locs hP hD hS => ?_)
  have hP : va_P D vwCl [(k0, .inr (9, [.ref b0, .ref b1, .ref b2, .ref b3, .int 0, .int 0])), (t0, .inr (8, [.ref t1, .int 0])), (t1, .inl (y 0, 700, .inl tf))] H := hP
  have hD : va_D A [(k0, .inr (9, [.ref b0, .ref b1, .ref b2, .ref b3, .int 0, .int 0])), (t0, .inr (8, [.ref t1, .int 0])), (t1, .inl (y 0, 700, .inl tf))] := hD
  refine lv_iconst (v := 0) hx hb dX10_cut_13 (by decide) ?_
  refine lv_istore_n (lv' := [(2, .int 0), (0, .ref k0), (1, .ref t0)]) hx hb dX10_cut_14 rfl hl (by decide) rfl (fun ls hl => ?_)
  refine lv_iconst (v := 0) hx hb dX10_cut_15 (by decide) ?_
  refine lv_istore_n (lv' := [(3, .int 0), (2, .int 0), (0, .ref k0), (1, .ref t0)]) hx hb dX10_cut_16 rfl hl (by decide) rfl (fun ls hl => ?_)
  refine lv_iload_n hx hb dX10_cut_17 rfl (lv_at hl 0 rfl) ?_
  refine lv_sipush (v := 700) hx hb dX10_cut_18 (by decide) ?_
  refine lv_icmp_ge (tgt := 45) hx hb dX10_cut_21 (by decide) (fun c_2 => ?_) (fun c_2 => ?_)
  · exact absurd c_2 (by decide)
  · refine lv_iload_n hx hb dX10_cut_24 rfl (lv_at hl 1 rfl) ?_
    refine lv_aload_n hx hb dX10_cut_25 rfl (lv_at hl 2 rfl) ?_
    refine va_get (D := D) (ci := 9) (v := .int 0) (C := RX10) (T := TX10) (N := 6) hx hb hts inX10 hown hK hP 0 rfl rfl 5 (by decide) fl48 (fun _ h9 => h9) rfl dX10_cut_26 ?_
    refine lv_icmp_ge (tgt := 45) hx hb dX10_cut_29 (by decide) (fun c_3 => ?_) (fun c_3 => ?_)
    · exact x_vret (u := ()) hx hb hr trivial hP hD hK hS [0, 1, 2] rfl (by decide) dX10_cut_45 hlocks hQ
    · exact absurd (by decide) c_3

def v_c_Parser_statements0 : List Cond := .code yX5_statements cX5_statements 3 (some .boolean) :: ([.fieldLink RX5 45 "SlopeRunner$Parser" "kind" "I"] ++ wsX50)
set_option maxHeartbeats 4000000 in
set_option maxRecDepth 100000 in
theorem c_Parser_statements0 (l : Launch) (D : va_G) (y : Nat → ClassId) (sz : Nat) (p0 c0 c1 : Nat) (pa po pf pb pp : Int32) : Met l yX5_statements v_c_Parser_statements0 ({ frames := 0, cells := 0, slots := 0, locals := 0 } : Room) (va_Pc [.ref p0, .int 0] (xPre D (xT y) [(p0, .inr (4, [.ref c0, .ref c1, .int pa, .int 256, .int po, .int pf, .int pb, .int pp]))] sz)) (va_Qi (fun (r : Int32) (_ : Unit) => r = 1) (fun (u : Unit) => xB D (xT y) (va_A [(p0, .inr (4, [.ref c0, .ref c1, .int pa, .int 256, .int po, .int pf, .int pb, .int pp]))] sz) [(p0, .inr (4, [.ref c0, .ref c1, .int pa, .int 256, .int po, .int pf, .int pb, .int pp]))]) (va_A [(p0, .inr (4, [.ref c0, .ref c1, .int pa, .int 256, .int po, .int pf, .int pb, .int pp]))] sz)) 0 0 (va_A [(p0, .inr (4, [.ref c0, .ref c1, .int pa, .int 256, .int po, .int pf, .int pb, .int pp]))] sz) := by
  refine x_meti (cc := cX5_statements) (maxL := 3) (by decide) rfl (Nat.le_of_ble_eq_true rfl) ?_
  intro p e s m below meth c A H locs Q hx hb hml hown hts hr hlocks hmn hA hP hK hD hS ls hl hQ
  have hl : lv_has ls 3 [(0, .ref p0), (1, .int 0)] := hl
  have fl45 := hts (.fieldLink RX5 45 "SlopeRunner$Parser" "kind" "I") (by decide +kernel)
  have inX5 : ∀ w ∈ wsX50, w ∈ v_c_Parser_statements0 := (fun w h => List.mem_cons_of_mem _ (List.mem_append_right _ h))
  refine lv_iconst (v := 0) hx hb dX5_statements_0 (by decide) ?_
  refine lv_istore_n (lv' := [(2, .int 0), (0, .ref p0), (1, .int 0)]) hx hb dX5_statements_1 rfl hl (by decide) rfl (fun ls hl => ?_)
  refine lv_iload_n hx hb dX5_statements_2 rfl (lv_at hl 0 rfl) ?_
  refine lv_bipush (v := 80) hx hb dX5_statements_3 (by decide) ?_
  refine lv_icmp_gt (tgt := 81) hx hb dX5_statements_5 (by decide) (fun c_1 => ?_) (fun c_1 => ?_)
  · exact absurd c_1 (by decide)
  · refine lv_aload_n hx hb dX5_statements_8 rfl (lv_at hl 1 rfl) ?_
    refine va_get (D := D) (ci := 4) (v := .int 256) (C := RX5) (T := TX5) (N := 8) hx hb hts inX5 hown hK hP 0 rfl rfl 3 (by decide) fl45 (fun _ h9 => h9) rfl dX5_statements_9 ?_
    refine lv_sipush (v := 256) hx hb dX5_statements_12 (by decide) ?_
    refine lv_icmp_ne (tgt := 32) hx hb dX5_statements_15 (by decide) (fun c_2 => ?_) (fun c_2 => ?_)
    · exact absurd (by decide) c_2
    · refine lv_iload_n hx hb dX5_statements_18 rfl (lv_at hl 2 rfl) ?_
      refine lv_if_eq (tgt := 30) hx hb dX5_statements_19 (by decide) (fun c_3 => ?_) (fun c_3 => ?_)
      · refine lv_iconst (v := 1) hx hb dX5_statements_30 (by decide) ?_
        exact x_zret (v := 1) (u := ()) hx hb hr rfl rfl hP hD hK hS [0] rfl (by decide) dX5_statements_31 hlocks hQ
      · exact absurd (by decide) c_3

def v_c_Parser_read0 : List Cond := .code yX5_read cX5_read 3 (some .boolean) :: ([.fieldLink RX5 12 "SlopeRunner$Parser" "tokens" "LSlopeRunner$Tokens;", .fieldLink RX5 34 "SlopeRunner$Parser" "into" "LSlopeRunner$Program;", .fieldLink RX5 38 "SlopeRunner$Parser" "at" "I", .fieldLink RX5 45 "SlopeRunner$Parser" "kind" "I", .fieldLink RX5 48 "SlopeRunner$Parser" "open" "I", .fieldLink RX5 22 "SlopeRunner$Parser" "kindOfFault" "I", .fieldLink RX5 18 "SlopeRunner$Parser" "placeOfFault" "I"] ++ ((wsV RX5 25 RX10 yX10_cut v_c_Tokens_cut0) ++ ((wsV RX5 29 RX6 yX6_clear v_c_Program_clear) ++ ((wsV RX5 41 RX10 yX10_kindAt v_c_Tokens_kindAt0) ++ ((wsV RX5 51 RX5 yX5_statements v_c_Parser_statements0) ++ wsX50)))))
theorem g_c_Parser_read0_0 : GoodIn v_c_Parser_read0 (wsV RX5 25 RX10 yX10_cut v_c_Tokens_cut0) := goodIn_sub (fun w h => List.mem_cons_of_mem _ (List.mem_append_right _ (List.mem_append_left _ h))) (by decide +kernel)
theorem g_c_Parser_read0_1 : GoodIn v_c_Parser_read0 (wsV RX5 29 RX6 yX6_clear v_c_Program_clear) := goodIn_sub (fun w h => List.mem_cons_of_mem _ (List.mem_append_right _ (List.mem_append_right _ (List.mem_append_left _ h)))) (by decide +kernel)
theorem g_c_Parser_read0_2 : GoodIn v_c_Parser_read0 (wsV RX5 41 RX10 yX10_kindAt v_c_Tokens_kindAt0) := goodIn_sub (fun w h => List.mem_cons_of_mem _ (List.mem_append_right _ (List.mem_append_right _ (List.mem_append_right _ (List.mem_append_left _ h))))) (by decide +kernel)
theorem g_c_Parser_read0_3 : GoodIn v_c_Parser_read0 (wsV RX5 51 RX5 yX5_statements v_c_Parser_statements0) := goodIn_sub (fun w h => List.mem_cons_of_mem _ (List.mem_append_right _ (List.mem_append_right _ (List.mem_append_right _ (List.mem_append_right _ (List.mem_append_left _ h)))))) (by decide +kernel)
set_option maxHeartbeats 4000000 in
set_option maxRecDepth 100000 in
theorem c_Parser_read0 (l : Launch) (D : va_G) (y : Nat → ClassId) (sz : Nat) (p0 k0 b0 b1 b2 b3 t0 t1 g0 d0 d1 d2 d3 d4 d5 : Nat) (kc kl pa pk po pf pb pp ni nw nv ns nn ln nm : Int32) (tf : Nat → Int32) : Met l yX5_read v_c_Parser_read0 ({ frames := 2, cells := 0, slots := 0, locals := 43 } : Room) (va_Pc [.ref p0, .ref t0, .ref g0] (xPre D (xT y) [(p0, .inr (4, [.ref k0, .null, .int pa, .int pk, .int po, .int pf, .int pb, .int pp])), (k0, .inr (9, [.ref b0, .ref b1, .ref b2, .ref b3, .int kc, .int kl])), (t0, .inr (8, [.ref t1, .int 0])), (t1, .inl (y 0, 700, .inl tf)), (g0, .inr (5, [.int ni, .int nw, .int nv, .int ns, .int nn, .int ln, .ref d0, .int nm, .ref d1, .ref d2, .ref d3, .ref d4, .ref d5]))] sz)) (va_Qi (fun (r : Int32) (_ : Unit) => r = 1) (fun (u : Unit) => xB D (xT y) (va_A [(p0, .inr (4, [.ref k0, .null, .int pa, .int pk, .int po, .int pf, .int pb, .int pp])), (k0, .inr (9, [.ref b0, .ref b1, .ref b2, .ref b3, .int kc, .int kl])), (t0, .inr (8, [.ref t1, .int 0])), (t1, .inl (y 0, 700, .inl tf)), (g0, .inr (5, [.int ni, .int nw, .int nv, .int ns, .int nn, .int ln, .ref d0, .int nm, .ref d1, .ref d2, .ref d3, .ref d4, .ref d5]))] sz) [(p0, .inr (4, [.ref k0, .ref g0, .int 0, .int 256, .int 0, .int 0, .int pb, .int (-1)])), (k0, .inr (9, [.ref b0, .ref b1, .ref b2, .ref b3, .int 0, .int 0])), (t0, .inr (8, [.ref t1, .int 0])), (t1, .inl (y 0, 700, .inl tf)), (g0, .inr (5, [.int 0, .int 0, .int 0, .int 0, .int 0, .int 0, .ref d0, .int 0, .ref d1, .ref d2, .ref d3, .ref d4, .ref d5]))]) (va_A [(p0, .inr (4, [.ref k0, .null, .int pa, .int pk, .int po, .int pf, .int pb, .int pp])), (k0, .inr (9, [.ref b0, .ref b1, .ref b2, .ref b3, .int kc, .int kl])), (t0, .inr (8, [.ref t1, .int 0])), (t1, .inl (y 0, 700, .inl tf)), (g0, .inr (5, [.int ni, .int nw, .int nv, .int ns, .int nn, .int ln, .ref d0, .int nm, .ref d1, .ref d2, .ref d3, .ref d4, .ref d5]))] sz)) 0 0 (va_A [(p0, .inr (4, [.ref k0, .null, .int pa, .int pk, .int po, .int pf, .int pb, .int pp])), (k0, .inr (9, [.ref b0, .ref b1, .ref b2, .ref b3, .int kc, .int kl])), (t0, .inr (8, [.ref t1, .int 0])), (t1, .inl (y 0, 700, .inl tf)), (g0, .inr (5, [.int ni, .int nw, .int nv, .int ns, .int nn, .int ln, .ref d0, .int nm, .ref d1, .ref d2, .ref d3, .ref d4, .ref d5]))] sz) := by
  refine x_meti (cc := cX5_read) (maxL := 3) (by decide) rfl (Nat.le_of_ble_eq_true rfl) ?_
  intro p e s m below meth c A H locs Q hx hb hml hown hts hr hlocks hmn hA hP hK hD hS ls hl hQ
  have hl : lv_has ls 3 [(0, .ref p0), (1, .ref t0), (2, .ref g0)] := hl
  have fl12 := hts (.fieldLink RX5 12 "SlopeRunner$Parser" "tokens" "LSlopeRunner$Tokens;") (by decide +kernel)
  have inX5 : ∀ w ∈ wsX50, w ∈ v_c_Parser_read0 := (fun w h => List.mem_cons_of_mem _ (List.mem_append_right _ (List.mem_append_right _ (List.mem_append_right _ (List.mem_append_right _ (List.mem_append_right _ h))))))
  have fl34 := hts (.fieldLink RX5 34 "SlopeRunner$Parser" "into" "LSlopeRunner$Program;") (by decide +kernel)
  have fl38 := hts (.fieldLink RX5 38 "SlopeRunner$Parser" "at" "I") (by decide +kernel)
  have fl45 := hts (.fieldLink RX5 45 "SlopeRunner$Parser" "kind" "I") (by decide +kernel)
  have fl48 := hts (.fieldLink RX5 48 "SlopeRunner$Parser" "open" "I") (by decide +kernel)
  have fl22 := hts (.fieldLink RX5 22 "SlopeRunner$Parser" "kindOfFault" "I") (by decide +kernel)
  have fl18 := hts (.fieldLink RX5 18 "SlopeRunner$Parser" "placeOfFault" "I") (by decide +kernel)
  refine lv_aload_n hx hb dX5_read_0 rfl (lv_at hl 0 rfl) ?_
  refine va_get (D := D) (ci := 4) (v := .ref k0) (C := RX5) (T := TX5) (N := 8) hx hb hts inX5 hown hK hP 0 rfl rfl 0 (by decide) fl12 (fun _ h9 => h9) rfl dX5_read_1 ?_
  refine lv_aload_n hx hb dX5_read_4 rfl (lv_at hl 1 rfl) ?_
  refine x_callv (w1 := fun (u : Unit) => [(k0, .inr (9, [.ref b0, .ref b1, .ref b2, .ref b3, .int 0, .int 0])), (t0, .inr (8, [.ref t1, .int 0])), (t1, .inl (y 0, 700, .inl tf))]) (wr := [(p0, .inr (4, [.ref k0, .null, .int pa, .int pk, .int po, .int pf, .int pb, .int pp])), (g0, .inr (5, [.int ni, .int nw, .int nv, .int ns, .int nn, .int ln, .ref d0, .int nm, .ref d1, .ref d2, .ref d3, .ref d4, .ref d5]))]) (ws' := fun (u : Unit) => [(p0, .inr (4, [.ref k0, .null, .int pa, .int pk, .int po, .int pf, .int pb, .int pp])), (k0, .inr (9, [.ref b0, .ref b1, .ref b2, .ref b3, .int 0, .int 0])), (t0, .inr (8, [.ref t1, .int 0])), (t1, .inl (y 0, 700, .inl tf)), (g0, .inr (5, [.int ni, .int nw, .int nv, .int ns, .int nn, .int ln, .ref d0, .int nm, .ref d1, .ref d2, .ref d3, .ref d4, .ref d5]))]) (va_runV (As := [.ref t0]) (rest := []) ⟨hx, hb, hml, hown, hts⟩ (c_Tokens_cut0 l D y H.size k0 b0 b1 b2 b3 t0 t1 kc kl tf) (cwV 1 hts g_c_Parser_read0_0 rfl rfl rfl (by decide +kernel) ⟨Nat.le_of_ble_eq_true rfl, Nat.le_of_ble_eq_true rfl⟩) (x_preV (q := (RX10, TX10, 6)) hK (x_subP hP [1, 2, 3] rfl) (x_subD hD [1, 2, 3] rfl (by decide)) (ci := 9) (q0 := 0) rfl rfl) rfl rfl hl.1 rfl (lv_room (Nat.le_of_ble_eq_true rfl)) dX5_read_5 ⟨Nat.le_of_ble_eq_true rfl, Nat.le_of_ble_eq_true rfl⟩) hP hD hS hA [1, 2, 3] [0, 4] rfl rfl (by decide) (by decide) [0, 2, 3, 4, 1] (fun _ => rfl) (by decide) (fun u H locs hw hP hD hS => ?_)
  try dsimp only at hw
  have hP : va_P D vwCl [(p0, .inr (4, [.ref k0, .null, .int pa, .int pk, .int po, .int pf, .int pb, .int pp])), (k0, .inr (9, [.ref b0, .ref b1, .ref b2, .ref b3, .int 0, .int 0])), (t0, .inr (8, [.ref t1, .int 0])), (t1, .inl (y 0, 700, .inl tf)), (g0, .inr (5, [.int ni, .int nw, .int nv, .int ns, .int nn, .int ln, .ref d0, .int nm, .ref d1, .ref d2, .ref d3, .ref d4, .ref d5]))] H := hP
  have hD : va_D A [(p0, .inr (4, [.ref k0, .null, .int pa, .int pk, .int po, .int pf, .int pb, .int pp])), (k0, .inr (9, [.ref b0, .ref b1, .ref b2, .ref b3, .int 0, .int 0])), (t0, .inr (8, [.ref t1, .int 0])), (t1, .inl (y 0, 700, .inl tf)), (g0, .inr (5, [.int ni, .int nw, .int nv, .int ns, .int nn, .int ln, .ref d0, .int nm, .ref d1, .ref d2, .ref d3, .ref d4, .ref d5]))] := hD
  refine lv_aload_n hx hb dX5_read_8 rfl (lv_at hl 2 rfl) ?_
  refine x_callv (w1 := fun (u : Unit) => [(g0, .inr (5, [.int 0, .int 0, .int 0, .int 0, .int 0, .int 0, .ref d0, .int 0, .ref d1, .ref d2, .ref d3, .ref d4, .ref d5]))]) (wr := [(p0, .inr (4, [.ref k0, .null, .int pa, .int pk, .int po, .int pf, .int pb, .int pp])), (k0, .inr (9, [.ref b0, .ref b1, .ref b2, .ref b3, .int 0, .int 0])), (t0, .inr (8, [.ref t1, .int 0])), (t1, .inl (y 0, 700, .inl tf))]) (ws' := fun (u : Unit) => [(p0, .inr (4, [.ref k0, .null, .int pa, .int pk, .int po, .int pf, .int pb, .int pp])), (k0, .inr (9, [.ref b0, .ref b1, .ref b2, .ref b3, .int 0, .int 0])), (t0, .inr (8, [.ref t1, .int 0])), (t1, .inl (y 0, 700, .inl tf)), (g0, .inr (5, [.int 0, .int 0, .int 0, .int 0, .int 0, .int 0, .ref d0, .int 0, .ref d1, .ref d2, .ref d3, .ref d4, .ref d5]))]) (va_runV (As := []) (rest := []) ⟨hx, hb, hml, hown, hts⟩ (c_Program_clear l D y H.size g0 d0 d1 d2 d3 d4 d5 ni nw nv ns nn ln nm) (cwV 0 hts g_c_Parser_read0_1 rfl rfl rfl (by decide +kernel) ⟨Nat.le_of_ble_eq_true rfl, Nat.le_of_ble_eq_true rfl⟩) (x_preV (q := (RX6, TX6, 13)) hK (x_subP hP [4] rfl) (x_subD hD [4] rfl (by decide)) (ci := 5) (q0 := 0) rfl rfl) rfl rfl hl.1 rfl (lv_room (Nat.le_of_ble_eq_true rfl)) dX5_read_9 ⟨Nat.le_of_ble_eq_true rfl, Nat.le_of_ble_eq_true rfl⟩) hP hD hS hA [4] [0, 1, 2, 3] rfl rfl (by decide) (by decide) [0, 1, 2, 3, 4] (fun _ => rfl) (by decide) (fun u H locs hw hP hD hS => ?_)
  try dsimp only at hw
  have hP : va_P D vwCl [(p0, .inr (4, [.ref k0, .null, .int pa, .int pk, .int po, .int pf, .int pb, .int pp])), (k0, .inr (9, [.ref b0, .ref b1, .ref b2, .ref b3, .int 0, .int 0])), (t0, .inr (8, [.ref t1, .int 0])), (t1, .inl (y 0, 700, .inl tf)), (g0, .inr (5, [.int 0, .int 0, .int 0, .int 0, .int 0, .int 0, .ref d0, .int 0, .ref d1, .ref d2, .ref d3, .ref d4, .ref d5]))] H := hP
  have hD : va_D A [(p0, .inr (4, [.ref k0, .null, .int pa, .int pk, .int po, .int pf, .int pb, .int pp])), (k0, .inr (9, [.ref b0, .ref b1, .ref b2, .ref b3, .int 0, .int 0])), (t0, .inr (8, [.ref t1, .int 0])), (t1, .inl (y 0, 700, .inl tf)), (g0, .inr (5, [.int 0, .int 0, .int 0, .int 0, .int 0, .int 0, .ref d0, .int 0, .ref d1, .ref d2, .ref d3, .ref d4, .ref d5]))] := hD
  refine lv_aload_n hx hb dX5_read_12 rfl (lv_at hl 0 rfl) ?_
  refine lv_aload_n hx hb dX5_read_13 rfl (lv_at hl 2 rfl) ?_
  refine va_put (D := D) (ci := 4) (v := .ref g0) (ty := (.object "SlopeRunner$Program")) (C := RX5) (T := TX5) (N := 8) hx hb hts inX5 tyX5 tyX5_ok nmX5 hown hK hP hD hS 0 rfl rfl 1 (by decide) fl34 (fun _ h9 => h9) rfl (by decide +kernel) rfl rfl (Nat.le_of_ble_eq_true rfl) dX5_read_14 (fun H locs hP hD hS => ?_)
  have hP : va_P D vwCl [(p0, .inr (4, [.ref k0, .ref g0, .int pa, .int pk, .int po, .int pf, .int pb, .int pp])), (k0, .inr (9, [.ref b0, .ref b1, .ref b2, .ref b3, .int 0, .int 0])), (t0, .inr (8, [.ref t1, .int 0])), (t1, .inl (y 0, 700, .inl tf)), (g0, .inr (5, [.int 0, .int 0, .int 0, .int 0, .int 0, .int 0, .ref d0, .int 0, .ref d1, .ref d2, .ref d3, .ref d4, .ref d5]))] H := hP
  have hD : va_D A [(p0, .inr (4, [.ref k0, .ref g0, .int pa, .int pk, .int po, .int pf, .int pb, .int pp])), (k0, .inr (9, [.ref b0, .ref b1, .ref b2, .ref b3, .int 0, .int 0])), (t0, .inr (8, [.ref t1, .int 0])), (t1, .inl (y 0, 700, .inl tf)), (g0, .inr (5, [.int 0, .int 0, .int 0, .int 0, .int 0, .int 0, .ref d0, .int 0, .ref d1, .ref d2, .ref d3, .ref d4, .ref d5]))] := hD
  refine lv_aload_n hx hb dX5_read_17 rfl (lv_at hl 0 rfl) ?_
  refine lv_iconst (v := 0) hx hb dX5_read_18 (by decide) ?_
  refine va_put (D := D) (ci := 4) (v := .int 0) (ty := .int) (C := RX5) (T := TX5) (N := 8) hx hb hts inX5 tyX5 tyX5_ok nmX5 hown hK hP hD hS 0 rfl rfl 2 (by decide) fl38 (fun _ h9 => h9) rfl (by decide +kernel) rfl rfl (Nat.le_of_ble_eq_true rfl) dX5_read_19 (fun H locs hP hD hS => ?_)
  have hP : va_P D vwCl [(p0, .inr (4, [.ref k0, .ref g0, .int 0, .int pk, .int po, .int pf, .int pb, .int pp])), (k0, .inr (9, [.ref b0, .ref b1, .ref b2, .ref b3, .int 0, .int 0])), (t0, .inr (8, [.ref t1, .int 0])), (t1, .inl (y 0, 700, .inl tf)), (g0, .inr (5, [.int 0, .int 0, .int 0, .int 0, .int 0, .int 0, .ref d0, .int 0, .ref d1, .ref d2, .ref d3, .ref d4, .ref d5]))] H := hP
  have hD : va_D A [(p0, .inr (4, [.ref k0, .ref g0, .int 0, .int pk, .int po, .int pf, .int pb, .int pp])), (k0, .inr (9, [.ref b0, .ref b1, .ref b2, .ref b3, .int 0, .int 0])), (t0, .inr (8, [.ref t1, .int 0])), (t1, .inl (y 0, 700, .inl tf)), (g0, .inr (5, [.int 0, .int 0, .int 0, .int 0, .int 0, .int 0, .ref d0, .int 0, .ref d1, .ref d2, .ref d3, .ref d4, .ref d5]))] := hD
  refine lv_aload_n hx hb dX5_read_22 rfl (lv_at hl 0 rfl) ?_
  refine lv_aload_n hx hb dX5_read_23 rfl (lv_at hl 0 rfl) ?_
  refine va_get (D := D) (ci := 4) (v := .ref k0) (C := RX5) (T := TX5) (N := 8) hx hb hts inX5 hown hK hP 0 rfl rfl 0 (by decide) fl12 (fun _ h9 => h9) rfl dX5_read_24 ?_
  refine lv_iconst (v := 0) hx hb dX5_read_27 (by decide) ?_
  refine x_calli (w1 := fun (u : Unit) => [(k0, .inr (9, [.ref b0, .ref b1, .ref b2, .ref b3, .int 0, .int 0]))]) (wr := [(p0, .inr (4, [.ref k0, .ref g0, .int 0, .int pk, .int po, .int pf, .int pb, .int pp])), (t0, .inr (8, [.ref t1, .int 0])), (t1, .inl (y 0, 700, .inl tf)), (g0, .inr (5, [.int 0, .int 0, .int 0, .int 0, .int 0, .int 0, .ref d0, .int 0, .ref d1, .ref d2, .ref d3, .ref d4, .ref d5]))]) (ws' := fun (u : Unit) => [(p0, .inr (4, [.ref k0, .ref g0, .int 0, .int pk, .int po, .int pf, .int pb, .int pp])), (k0, .inr (9, [.ref b0, .ref b1, .ref b2, .ref b3, .int 0, .int 0])), (t0, .inr (8, [.ref t1, .int 0])), (t1, .inl (y 0, 700, .inl tf)), (g0, .inr (5, [.int 0, .int 0, .int 0, .int 0, .int 0, .int 0, .ref d0, .int 0, .ref d1, .ref d2, .ref d3, .ref d4, .ref d5]))]) (va_runV (As := [.int 0]) (rest := [.ref p0]) ⟨hx, hb, hml, hown, hts⟩ (c_Tokens_kindAt0 l D y H.size k0 b0 b1 b2 b3 0) (cwV 1 hts g_c_Parser_read0_2 rfl rfl rfl (by decide +kernel) ⟨Nat.le_of_ble_eq_true rfl, Nat.le_of_ble_eq_true rfl⟩) (x_preV (q := (RX10, TX10, 6)) hK (x_subP hP [1] rfl) (x_subD hD [1] rfl (by decide)) (ci := 9) (q0 := 0) rfl rfl) rfl rfl hl.1 rfl (lv_room (Nat.le_of_ble_eq_true rfl)) dX5_read_28 ⟨Nat.le_of_ble_eq_true rfl, Nat.le_of_ble_eq_true rfl⟩) hP hD hS hA [1] [0, 2, 3, 4] rfl rfl (by decide) (by decide) [0, 4, 1, 2, 3] (fun _ => rfl) (by decide) (fun r_1 u H locs hw hP hD hS => ?_)
  try dsimp only at hw
  obtain rfl : r_1 = 256 := hw
  have hP : va_P D vwCl [(p0, .inr (4, [.ref k0, .ref g0, .int 0, .int pk, .int po, .int pf, .int pb, .int pp])), (k0, .inr (9, [.ref b0, .ref b1, .ref b2, .ref b3, .int 0, .int 0])), (t0, .inr (8, [.ref t1, .int 0])), (t1, .inl (y 0, 700, .inl tf)), (g0, .inr (5, [.int 0, .int 0, .int 0, .int 0, .int 0, .int 0, .ref d0, .int 0, .ref d1, .ref d2, .ref d3, .ref d4, .ref d5]))] H := hP
  have hD : va_D A [(p0, .inr (4, [.ref k0, .ref g0, .int 0, .int pk, .int po, .int pf, .int pb, .int pp])), (k0, .inr (9, [.ref b0, .ref b1, .ref b2, .ref b3, .int 0, .int 0])), (t0, .inr (8, [.ref t1, .int 0])), (t1, .inl (y 0, 700, .inl tf)), (g0, .inr (5, [.int 0, .int 0, .int 0, .int 0, .int 0, .int 0, .ref d0, .int 0, .ref d1, .ref d2, .ref d3, .ref d4, .ref d5]))] := hD
  refine va_put (D := D) (ci := 4) (v := .int 256) (ty := .int) (C := RX5) (T := TX5) (N := 8) hx hb hts inX5 tyX5 tyX5_ok nmX5 hown hK hP hD hS 0 rfl rfl 3 (by decide) fl45 (fun _ h9 => h9) rfl (by decide +kernel) rfl rfl (Nat.le_of_ble_eq_true rfl) dX5_read_31 (fun H locs hP hD hS => ?_)
  have hP : va_P D vwCl [(p0, .inr (4, [.ref k0, .ref g0, .int 0, .int 256, .int po, .int pf, .int pb, .int pp])), (k0, .inr (9, [.ref b0, .ref b1, .ref b2, .ref b3, .int 0, .int 0])), (t0, .inr (8, [.ref t1, .int 0])), (t1, .inl (y 0, 700, .inl tf)), (g0, .inr (5, [.int 0, .int 0, .int 0, .int 0, .int 0, .int 0, .ref d0, .int 0, .ref d1, .ref d2, .ref d3, .ref d4, .ref d5]))] H := hP
  have hD : va_D A [(p0, .inr (4, [.ref k0, .ref g0, .int 0, .int 256, .int po, .int pf, .int pb, .int pp])), (k0, .inr (9, [.ref b0, .ref b1, .ref b2, .ref b3, .int 0, .int 0])), (t0, .inr (8, [.ref t1, .int 0])), (t1, .inl (y 0, 700, .inl tf)), (g0, .inr (5, [.int 0, .int 0, .int 0, .int 0, .int 0, .int 0, .ref d0, .int 0, .ref d1, .ref d2, .ref d3, .ref d4, .ref d5]))] := hD
  refine lv_aload_n hx hb dX5_read_34 rfl (lv_at hl 0 rfl) ?_
  refine lv_iconst (v := 0) hx hb dX5_read_35 (by decide) ?_
  refine va_put (D := D) (ci := 4) (v := .int 0) (ty := .int) (C := RX5) (T := TX5) (N := 8) hx hb hts inX5 tyX5 tyX5_ok nmX5 hown hK hP hD hS 0 rfl rfl 4 (by decide) fl48 (fun _ h9 => h9) rfl (by decide +kernel) rfl rfl (Nat.le_of_ble_eq_true rfl) dX5_read_36 (fun H locs hP hD hS => ?_)
  have hP : va_P D vwCl [(p0, .inr (4, [.ref k0, .ref g0, .int 0, .int 256, .int 0, .int pf, .int pb, .int pp])), (k0, .inr (9, [.ref b0, .ref b1, .ref b2, .ref b3, .int 0, .int 0])), (t0, .inr (8, [.ref t1, .int 0])), (t1, .inl (y 0, 700, .inl tf)), (g0, .inr (5, [.int 0, .int 0, .int 0, .int 0, .int 0, .int 0, .ref d0, .int 0, .ref d1, .ref d2, .ref d3, .ref d4, .ref d5]))] H := hP
  have hD : va_D A [(p0, .inr (4, [.ref k0, .ref g0, .int 0, .int 256, .int 0, .int pf, .int pb, .int pp])), (k0, .inr (9, [.ref b0, .ref b1, .ref b2, .ref b3, .int 0, .int 0])), (t0, .inr (8, [.ref t1, .int 0])), (t1, .inl (y 0, 700, .inl tf)), (g0, .inr (5, [.int 0, .int 0, .int 0, .int 0, .int 0, .int 0, .ref d0, .int 0, .ref d1, .ref d2, .ref d3, .ref d4, .ref d5]))] := hD
  refine lv_aload_n hx hb dX5_read_39 rfl (lv_at hl 0 rfl) ?_
  refine lv_iconst (v := 0) hx hb dX5_read_40 (by decide) ?_
  refine va_put (D := D) (ci := 4) (v := .int 0) (ty := .int) (C := RX5) (T := TX5) (N := 8) hx hb hts inX5 tyX5 tyX5_ok nmX5 hown hK hP hD hS 0 rfl rfl 5 (by decide) fl22 (fun _ h9 => h9) rfl (by decide +kernel) rfl rfl (Nat.le_of_ble_eq_true rfl) dX5_read_41 (fun H locs hP hD hS => ?_)
  have hP : va_P D vwCl [(p0, .inr (4, [.ref k0, .ref g0, .int 0, .int 256, .int 0, .int 0, .int pb, .int pp])), (k0, .inr (9, [.ref b0, .ref b1, .ref b2, .ref b3, .int 0, .int 0])), (t0, .inr (8, [.ref t1, .int 0])), (t1, .inl (y 0, 700, .inl tf)), (g0, .inr (5, [.int 0, .int 0, .int 0, .int 0, .int 0, .int 0, .ref d0, .int 0, .ref d1, .ref d2, .ref d3, .ref d4, .ref d5]))] H := hP
  have hD : va_D A [(p0, .inr (4, [.ref k0, .ref g0, .int 0, .int 256, .int 0, .int 0, .int pb, .int pp])), (k0, .inr (9, [.ref b0, .ref b1, .ref b2, .ref b3, .int 0, .int 0])), (t0, .inr (8, [.ref t1, .int 0])), (t1, .inl (y 0, 700, .inl tf)), (g0, .inr (5, [.int 0, .int 0, .int 0, .int 0, .int 0, .int 0, .ref d0, .int 0, .ref d1, .ref d2, .ref d3, .ref d4, .ref d5]))] := hD
  refine lv_aload_n hx hb dX5_read_44 rfl (lv_at hl 0 rfl) ?_
  refine lv_iconst (v := (-1)) hx hb dX5_read_45 (by decide) ?_
  refine va_put (D := D) (ci := 4) (v := .int (-1)) (ty := .int) (C := RX5) (T := TX5) (N := 8) hx hb hts inX5 tyX5 tyX5_ok nmX5 hown hK hP hD hS 0 rfl rfl 7 (by decide) fl18 (fun _ h9 => h9) rfl (by decide +kernel) rfl rfl (Nat.le_of_ble_eq_true rfl) dX5_read_46 (fun H locs hP hD hS => ?_)
  have hP : va_P D vwCl [(p0, .inr (4, [.ref k0, .ref g0, .int 0, .int 256, .int 0, .int 0, .int pb, .int (-1)])), (k0, .inr (9, [.ref b0, .ref b1, .ref b2, .ref b3, .int 0, .int 0])), (t0, .inr (8, [.ref t1, .int 0])), (t1, .inl (y 0, 700, .inl tf)), (g0, .inr (5, [.int 0, .int 0, .int 0, .int 0, .int 0, .int 0, .ref d0, .int 0, .ref d1, .ref d2, .ref d3, .ref d4, .ref d5]))] H := hP
  have hD : va_D A [(p0, .inr (4, [.ref k0, .ref g0, .int 0, .int 256, .int 0, .int 0, .int pb, .int (-1)])), (k0, .inr (9, [.ref b0, .ref b1, .ref b2, .ref b3, .int 0, .int 0])), (t0, .inr (8, [.ref t1, .int 0])), (t1, .inl (y 0, 700, .inl tf)), (g0, .inr (5, [.int 0, .int 0, .int 0, .int 0, .int 0, .int 0, .ref d0, .int 0, .ref d1, .ref d2, .ref d3, .ref d4, .ref d5]))] := hD
  refine lv_aload_n hx hb dX5_read_49 rfl (lv_at hl 0 rfl) ?_
  refine lv_iconst (v := 0) hx hb dX5_read_50 (by decide) ?_
  refine x_calli (w1 := fun (u : Unit) => [(p0, .inr (4, [.ref k0, .ref g0, .int 0, .int 256, .int 0, .int 0, .int pb, .int (-1)]))]) (wr := [(k0, .inr (9, [.ref b0, .ref b1, .ref b2, .ref b3, .int 0, .int 0])), (t0, .inr (8, [.ref t1, .int 0])), (t1, .inl (y 0, 700, .inl tf)), (g0, .inr (5, [.int 0, .int 0, .int 0, .int 0, .int 0, .int 0, .ref d0, .int 0, .ref d1, .ref d2, .ref d3, .ref d4, .ref d5]))]) (ws' := fun (u : Unit) => [(p0, .inr (4, [.ref k0, .ref g0, .int 0, .int 256, .int 0, .int 0, .int pb, .int (-1)])), (k0, .inr (9, [.ref b0, .ref b1, .ref b2, .ref b3, .int 0, .int 0])), (t0, .inr (8, [.ref t1, .int 0])), (t1, .inl (y 0, 700, .inl tf)), (g0, .inr (5, [.int 0, .int 0, .int 0, .int 0, .int 0, .int 0, .ref d0, .int 0, .ref d1, .ref d2, .ref d3, .ref d4, .ref d5]))]) (va_runV (As := [.int 0]) (rest := []) ⟨hx, hb, hml, hown, hts⟩ (c_Parser_statements0 l D y H.size p0 k0 g0 0 0 0 pb (-1)) (cwV 1 hts g_c_Parser_read0_3 rfl rfl rfl (by decide +kernel) ⟨Nat.le_of_ble_eq_true rfl, Nat.le_of_ble_eq_true rfl⟩) (x_preV (q := (RX5, TX5, 8)) hK (x_subP hP [0] rfl) (x_subD hD [0] rfl (by decide)) (ci := 4) (q0 := 0) rfl rfl) rfl rfl hl.1 rfl (lv_room (Nat.le_of_ble_eq_true rfl)) dX5_read_51 ⟨Nat.le_of_ble_eq_true rfl, Nat.le_of_ble_eq_true rfl⟩) hP hD hS hA [0] [1, 2, 3, 4] rfl rfl (by decide) (by decide) [4, 0, 1, 2, 3] (fun _ => rfl) (by decide) (fun r_2 u H locs hw hP hD hS => ?_)
  try dsimp only at hw
  obtain rfl : r_2 = 1 := hw
  have hP : va_P D vwCl [(p0, .inr (4, [.ref k0, .ref g0, .int 0, .int 256, .int 0, .int 0, .int pb, .int (-1)])), (k0, .inr (9, [.ref b0, .ref b1, .ref b2, .ref b3, .int 0, .int 0])), (t0, .inr (8, [.ref t1, .int 0])), (t1, .inl (y 0, 700, .inl tf)), (g0, .inr (5, [.int 0, .int 0, .int 0, .int 0, .int 0, .int 0, .ref d0, .int 0, .ref d1, .ref d2, .ref d3, .ref d4, .ref d5]))] H := hP
  have hD : va_D A [(p0, .inr (4, [.ref k0, .ref g0, .int 0, .int 256, .int 0, .int 0, .int pb, .int (-1)])), (k0, .inr (9, [.ref b0, .ref b1, .ref b2, .ref b3, .int 0, .int 0])), (t0, .inr (8, [.ref t1, .int 0])), (t1, .inl (y 0, 700, .inl tf)), (g0, .inr (5, [.int 0, .int 0, .int 0, .int 0, .int 0, .int 0, .ref d0, .int 0, .ref d1, .ref d2, .ref d3, .ref d4, .ref d5]))] := hD
  refine lv_if_eq (tgt := 59) hx hb dX5_read_54 (by decide) (fun c_3 => ?_) (fun c_3 => ?_)
  · exact absurd c_3 (by decide)
  · refine lv_iconst (v := 1) hx hb dX5_read_57 (by decide) ?_
    exact x_zret (v := 1) (u := ()) hx hb hr rfl rfl hP hD hK hS [0, 1, 2, 3, 4] rfl (by decide) dX5_read_58 hlocks hQ

def v_c_Tape_begin0 : List Cond := .code yX8_begin cX8_begin 4 none :: ([.fieldLink RX8 28 "SlopeRunner$Tape" "state" "I", .fieldLink RX8 59 "SlopeRunner$Program" "inputs" "I", .fieldLink RX8 38 "SlopeRunner$Tape" "inputs" "I", .fieldLink RX8 60 "SlopeRunner$Program" "numbers" "I", .fieldLink RX8 41 "SlopeRunner$Tape" "firstStep" "I", .fieldLink RX8 44 "SlopeRunner$Tape" "size" "I", .fieldLink RX8 11 "SlopeRunner$Tape" "value" "[J"] ++ ((wsV RX8 56 RX8 yX8_forget v_c_Tape_forget) ++ ((wsV RX8 63 RX8 yX8_zeroAt v_c_Tape_zeroAt) ++ (wsX80 ++ wsX60))))
theorem g_c_Tape_begin0_0 : GoodIn v_c_Tape_begin0 (wsV RX8 56 RX8 yX8_forget v_c_Tape_forget) := goodIn_sub (fun w h => List.mem_cons_of_mem _ (List.mem_append_right _ (List.mem_append_left _ h))) (by decide +kernel)
theorem g_c_Tape_begin0_1 : GoodIn v_c_Tape_begin0 (wsV RX8 63 RX8 yX8_zeroAt v_c_Tape_zeroAt) := goodIn_sub (fun w h => List.mem_cons_of_mem _ (List.mem_append_right _ (List.mem_append_right _ (List.mem_append_left _ h)))) (by decide +kernel)
set_option maxHeartbeats 4000000 in
set_option maxRecDepth 100000 in
theorem c_Tape_begin0 (l : Launch) (D : va_G) (y : Nat → ClassId) (sz : Nat) (h0 a0 a1 a2 a3 a4 g0 d0 d1 d2 d3 d4 d5 v0 : Nat) (st ni fs sz0 sp nr ed : Int32) (nn : Int64) (f : Nat → Int64) : Met l yX8_begin v_c_Tape_begin0 ({ frames := 1, cells := 0, slots := 0, locals := 20 } : Room) (va_Pc [.ref h0, .ref g0, .ref v0] (xPre D (xT y) [(h0, .inr (7, [.ref a0, .ref a1, .ref a2, .ref a3, .ref a4, .int st, .int ni, .int fs, .int sz0, .int sp, .int nr, .int ed, .long nn])), (a0, .inl (y 3, 1359, .inr (.inl f))), (g0, .inr (5, [.int 0, .int 0, .int 0, .int 0, .int 0, .int 0, .ref d0, .int 0, .ref d1, .ref d2, .ref d3, .ref d4, .ref d5]))] sz)) (va_Qv (fun (_ : Nat → Int64) => True) (fun (u : Nat → Int64) => xB D (xT y) (va_A [(h0, .inr (7, [.ref a0, .ref a1, .ref a2, .ref a3, .ref a4, .int st, .int ni, .int fs, .int sz0, .int sp, .int nr, .int ed, .long nn])), (a0, .inl (y 3, 1359, .inr (.inl f))), (g0, .inr (5, [.int 0, .int 0, .int 0, .int 0, .int 0, .int 0, .ref d0, .int 0, .ref d1, .ref d2, .ref d3, .ref d4, .ref d5]))] sz) [(h0, .inr (7, [.ref a0, .ref a1, .ref a2, .ref a3, .ref a4, .int (-2), .int 0, .int 1, .int 1, .int 0, .int 0, .int 0, .long 0])), (a0, .inl (y 3, 1359, .inr (.inl u))), (g0, .inr (5, [.int 0, .int 0, .int 0, .int 0, .int 0, .int 0, .ref d0, .int 0, .ref d1, .ref d2, .ref d3, .ref d4, .ref d5]))]) (va_A [(h0, .inr (7, [.ref a0, .ref a1, .ref a2, .ref a3, .ref a4, .int st, .int ni, .int fs, .int sz0, .int sp, .int nr, .int ed, .long nn])), (a0, .inl (y 3, 1359, .inr (.inl f))), (g0, .inr (5, [.int 0, .int 0, .int 0, .int 0, .int 0, .int 0, .ref d0, .int 0, .ref d1, .ref d2, .ref d3, .ref d4, .ref d5]))] sz)) 0 0 (va_A [(h0, .inr (7, [.ref a0, .ref a1, .ref a2, .ref a3, .ref a4, .int st, .int ni, .int fs, .int sz0, .int sp, .int nr, .int ed, .long nn])), (a0, .inl (y 3, 1359, .inr (.inl f))), (g0, .inr (5, [.int 0, .int 0, .int 0, .int 0, .int 0, .int 0, .ref d0, .int 0, .ref d1, .ref d2, .ref d3, .ref d4, .ref d5]))] sz) := by
  refine x_metv (cc := cX8_begin) (maxL := 4) (by decide) rfl (Nat.le_of_ble_eq_true rfl) ?_
  intro p e s m below meth c A H locs Q hx hb hml hown hts hr hlocks hmn hA hP hK hD hS ls hl hQ
  have hl : lv_has ls 4 [(0, .ref h0), (1, .ref g0), (2, .ref v0)] := hl
  have fl28 := hts (.fieldLink RX8 28 "SlopeRunner$Tape" "state" "I") (by decide +kernel)
  have inX8 : ∀ w ∈ wsX80, w ∈ v_c_Tape_begin0 := (fun w h => List.mem_cons_of_mem _ (List.mem_append_right _ (List.mem_append_right _ (List.mem_append_right _ (List.mem_append_left _ h)))))
  have fl59 := hts (.fieldLink RX8 59 "SlopeRunner$Program" "inputs" "I") (by decide +kernel)
  have inX6 : ∀ w ∈ wsX60, w ∈ v_c_Tape_begin0 := (fun w h => List.mem_cons_of_mem _ (List.mem_append_right _ (List.mem_append_right _ (List.mem_append_right _ (List.mem_append_right _ h)))))
  have fl38 := hts (.fieldLink RX8 38 "SlopeRunner$Tape" "inputs" "I") (by decide +kernel)
  have fl60 := hts (.fieldLink RX8 60 "SlopeRunner$Program" "numbers" "I") (by decide +kernel)
  have fl41 := hts (.fieldLink RX8 41 "SlopeRunner$Tape" "firstStep" "I") (by decide +kernel)
  have fl44 := hts (.fieldLink RX8 44 "SlopeRunner$Tape" "size" "I") (by decide +kernel)
  have fl11 := hts (.fieldLink RX8 11 "SlopeRunner$Tape" "value" "[J") (by decide +kernel)
  refine lv_aload_n hx hb dX8_begin_0 rfl (lv_at hl 0 rfl) ?_
  refine x_callv (w1 := fun (u : Unit) => [(h0, .inr (7, [.ref a0, .ref a1, .ref a2, .ref a3, .ref a4, .int (-1), .int 0, .int 0, .int 0, .int 0, .int 0, .int 0, .long 0]))]) (wr := [(a0, .inl (y 3, 1359, .inr (.inl f))), (g0, .inr (5, [.int 0, .int 0, .int 0, .int 0, .int 0, .int 0, .ref d0, .int 0, .ref d1, .ref d2, .ref d3, .ref d4, .ref d5]))]) (ws' := fun (u : Unit) => [(h0, .inr (7, [.ref a0, .ref a1, .ref a2, .ref a3, .ref a4, .int (-1), .int 0, .int 0, .int 0, .int 0, .int 0, .int 0, .long 0])), (a0, .inl (y 3, 1359, .inr (.inl f))), (g0, .inr (5, [.int 0, .int 0, .int 0, .int 0, .int 0, .int 0, .ref d0, .int 0, .ref d1, .ref d2, .ref d3, .ref d4, .ref d5]))]) (va_runV (As := []) (rest := []) ⟨hx, hb, hml, hown, hts⟩ (c_Tape_forget l D y H.size h0 a0 a1 a2 a3 a4 st ni fs sz0 sp nr ed nn) (cwV 0 hts g_c_Tape_begin0_0 rfl rfl rfl (by decide +kernel) ⟨Nat.le_of_ble_eq_true rfl, Nat.le_of_ble_eq_true rfl⟩) (x_preV (q := (RX8, TX8, 13)) hK (x_subP hP [0] rfl) (x_subD hD [0] rfl (by decide)) (ci := 7) (q0 := 0) rfl rfl) rfl rfl hl.1 rfl (lv_room (Nat.le_of_ble_eq_true rfl)) dX8_begin_1 ⟨Nat.le_of_ble_eq_true rfl, Nat.le_of_ble_eq_true rfl⟩) hP hD hS hA [0] [1, 2] rfl rfl (by decide) (by decide) [2, 0, 1] (fun _ => rfl) (by decide) (fun u H locs hw hP hD hS => ?_)
  try dsimp only at hw
  have hP : va_P D vwCl [(h0, .inr (7, [.ref a0, .ref a1, .ref a2, .ref a3, .ref a4, .int (-1), .int 0, .int 0, .int 0, .int 0, .int 0, .int 0, .long 0])), (a0, .inl (y 3, 1359, .inr (.inl f))), (g0, .inr (5, [.int 0, .int 0, .int 0, .int 0, .int 0, .int 0, .ref d0, .int 0, .ref d1, .ref d2, .ref d3, .ref d4, .ref d5]))] H := hP
  have hD : va_D A [(h0, .inr (7, [.ref a0, .ref a1, .ref a2, .ref a3, .ref a4, .int (-1), .int 0, .int 0, .int 0, .int 0, .int 0, .int 0, .long 0])), (a0, .inl (y 3, 1359, .inr (.inl f))), (g0, .inr (5, [.int 0, .int 0, .int 0, .int 0, .int 0, .int 0, .ref d0, .int 0, .ref d1, .ref d2, .ref d3, .ref d4, .ref d5]))] := hD
  refine lv_aload_n hx hb dX8_begin_4 rfl (lv_at hl 0 rfl) ?_
  refine lv_bipush (v := (-2)) hx hb dX8_begin_5 (by decide) ?_
  refine va_put (D := D) (ci := 7) (v := .int (-2)) (ty := .int) (C := RX8) (T := TX8) (N := 13) hx hb hts inX8 tyX8 tyX8_ok nmX8 hown hK hP hD hS 0 rfl rfl 5 (by decide) fl28 (fun _ h9 => h9) rfl (by decide +kernel) rfl rfl (Nat.le_of_ble_eq_true rfl) dX8_begin_7 (fun H locs hP hD hS => ?_)
  have hP : va_P D vwCl [(h0, .inr (7, [.ref a0, .ref a1, .ref a2, .ref a3, .ref a4, .int (-2), .int 0, .int 0, .int 0, .int 0, .int 0, .int 0, .long 0])), (a0, .inl (y 3, 1359, .inr (.inl f))), (g0, .inr (5, [.int 0, .int 0, .int 0, .int 0, .int 0, .int 0, .ref d0, .int 0, .ref d1, .ref d2, .ref d3, .ref d4, .ref d5]))] H := hP
  have hD : va_D A [(h0, .inr (7, [.ref a0, .ref a1, .ref a2, .ref a3, .ref a4, .int (-2), .int 0, .int 0, .int 0, .int 0, .int 0, .int 0, .long 0])), (a0, .inl (y 3, 1359, .inr (.inl f))), (g0, .inr (5, [.int 0, .int 0, .int 0, .int 0, .int 0, .int 0, .ref d0, .int 0, .ref d1, .ref d2, .ref d3, .ref d4, .ref d5]))] := hD
  refine lv_aload_n hx hb dX8_begin_10 rfl (lv_at hl 0 rfl) ?_
  refine lv_aload_n hx hb dX8_begin_11 rfl (lv_at hl 1 rfl) ?_
  refine va_get (D := D) (ci := 5) (v := .int 0) (C := RX6) (T := TX6) (N := 13) hx hb hts inX6 hown hK hP 2 rfl rfl 0 (by decide) fl59 (fun _ h9 => h9) rfl dX8_begin_12 ?_
  refine va_put (D := D) (ci := 7) (v := .int 0) (ty := .int) (C := RX8) (T := TX8) (N := 13) hx hb hts inX8 tyX8 tyX8_ok nmX8 hown hK hP hD hS 0 rfl rfl 6 (by decide) fl38 (fun _ h9 => h9) rfl (by decide +kernel) rfl rfl (Nat.le_of_ble_eq_true rfl) dX8_begin_15 (fun H locs hP hD hS => ?_)
  have hP : va_P D vwCl [(h0, .inr (7, [.ref a0, .ref a1, .ref a2, .ref a3, .ref a4, .int (-2), .int 0, .int 0, .int 0, .int 0, .int 0, .int 0, .long 0])), (a0, .inl (y 3, 1359, .inr (.inl f))), (g0, .inr (5, [.int 0, .int 0, .int 0, .int 0, .int 0, .int 0, .ref d0, .int 0, .ref d1, .ref d2, .ref d3, .ref d4, .ref d5]))] H := hP
  have hD : va_D A [(h0, .inr (7, [.ref a0, .ref a1, .ref a2, .ref a3, .ref a4, .int (-2), .int 0, .int 0, .int 0, .int 0, .int 0, .int 0, .long 0])), (a0, .inl (y 3, 1359, .inr (.inl f))), (g0, .inr (5, [.int 0, .int 0, .int 0, .int 0, .int 0, .int 0, .ref d0, .int 0, .ref d1, .ref d2, .ref d3, .ref d4, .ref d5]))] := hD
  refine lv_aload_n hx hb dX8_begin_18 rfl (lv_at hl 0 rfl) ?_
  refine lv_aload_n hx hb dX8_begin_19 rfl (lv_at hl 0 rfl) ?_
  refine va_get (D := D) (ci := 7) (v := .int 0) (C := RX8) (T := TX8) (N := 13) hx hb hts inX8 hown hK hP 0 rfl rfl 6 (by decide) fl38 (fun _ h9 => h9) rfl dX8_begin_20 ?_
  refine lv_iconst (v := 1) hx hb dX8_begin_23 (by decide) ?_
  refine lv_iadd hx hb dX8_begin_24 ?_
  refine lv_topi (fun i_1 ei_1 => ?_)
  obtain rfl : i_1 = 1 := ei_1.trans (by decide)
  refine lv_aload_n hx hb dX8_begin_25 rfl (lv_at hl 1 rfl) ?_
  refine va_get (D := D) (ci := 5) (v := .int 0) (C := RX6) (T := TX6) (N := 13) hx hb hts inX6 hown hK hP 2 rfl rfl 4 (by decide) fl60 (fun _ h9 => h9) rfl dX8_begin_26 ?_
  refine lv_iadd hx hb dX8_begin_29 ?_
  refine lv_topi (fun i_2 ei_2 => ?_)
  obtain rfl : i_2 = 1 := ei_2.trans (by decide)
  refine va_put (D := D) (ci := 7) (v := .int 1) (ty := .int) (C := RX8) (T := TX8) (N := 13) hx hb hts inX8 tyX8 tyX8_ok nmX8 hown hK hP hD hS 0 rfl rfl 7 (by decide) fl41 (fun _ h9 => h9) rfl (by decide +kernel) rfl rfl (Nat.le_of_ble_eq_true rfl) dX8_begin_30 (fun H locs hP hD hS => ?_)
  have hP : va_P D vwCl [(h0, .inr (7, [.ref a0, .ref a1, .ref a2, .ref a3, .ref a4, .int (-2), .int 0, .int 1, .int 0, .int 0, .int 0, .int 0, .long 0])), (a0, .inl (y 3, 1359, .inr (.inl f))), (g0, .inr (5, [.int 0, .int 0, .int 0, .int 0, .int 0, .int 0, .ref d0, .int 0, .ref d1, .ref d2, .ref d3, .ref d4, .ref d5]))] H := hP
  have hD : va_D A [(h0, .inr (7, [.ref a0, .ref a1, .ref a2, .ref a3, .ref a4, .int (-2), .int 0, .int 1, .int 0, .int 0, .int 0, .int 0, .long 0])), (a0, .inl (y 3, 1359, .inr (.inl f))), (g0, .inr (5, [.int 0, .int 0, .int 0, .int 0, .int 0, .int 0, .ref d0, .int 0, .ref d1, .ref d2, .ref d3, .ref d4, .ref d5]))] := hD
  refine lv_aload_n hx hb dX8_begin_33 rfl (lv_at hl 0 rfl) ?_
  refine lv_aload_n hx hb dX8_begin_34 rfl (lv_at hl 0 rfl) ?_
  refine va_get (D := D) (ci := 7) (v := .int 1) (C := RX8) (T := TX8) (N := 13) hx hb hts inX8 hown hK hP 0 rfl rfl 7 (by decide) fl41 (fun _ h9 => h9) rfl dX8_begin_35 ?_
  refine va_put (D := D) (ci := 7) (v := .int 1) (ty := .int) (C := RX8) (T := TX8) (N := 13) hx hb hts inX8 tyX8 tyX8_ok nmX8 hown hK hP hD hS 0 rfl rfl 8 (by decide) fl44 (fun _ h9 => h9) rfl (by decide +kernel) rfl rfl (Nat.le_of_ble_eq_true rfl) dX8_begin_38 (fun H locs hP hD hS => ?_)
  have hP : va_P D vwCl [(h0, .inr (7, [.ref a0, .ref a1, .ref a2, .ref a3, .ref a4, .int (-2), .int 0, .int 1, .int 1, .int 0, .int 0, .int 0, .long 0])), (a0, .inl (y 3, 1359, .inr (.inl f))), (g0, .inr (5, [.int 0, .int 0, .int 0, .int 0, .int 0, .int 0, .ref d0, .int 0, .ref d1, .ref d2, .ref d3, .ref d4, .ref d5]))] H := hP
  have hD : va_D A [(h0, .inr (7, [.ref a0, .ref a1, .ref a2, .ref a3, .ref a4, .int (-2), .int 0, .int 1, .int 1, .int 0, .int 0, .int 0, .long 0])), (a0, .inl (y 3, 1359, .inr (.inl f))), (g0, .inr (5, [.int 0, .int 0, .int 0, .int 0, .int 0, .int 0, .ref d0, .int 0, .ref d1, .ref d2, .ref d3, .ref d4, .ref d5]))] := hD
  refine lv_iconst (v := 0) hx hb dX8_begin_41 (by decide) ?_
  refine lv_istore_n (lv' := [(3, .int 0), (0, .ref h0), (1, .ref g0), (2, .ref v0)]) hx hb dX8_begin_42 rfl hl (by decide) rfl (fun ls hl => ?_)
  refine lv_iload_n hx hb dX8_begin_43 rfl (lv_at hl 0 rfl) ?_
  refine lv_aload_n hx hb dX8_begin_44 rfl (lv_at hl 1 rfl) ?_
  refine va_get (D := D) (ci := 7) (v := .int 0) (C := RX8) (T := TX8) (N := 13) hx hb hts inX8 hown hK hP 0 rfl rfl 6 (by decide) fl38 (fun _ h9 => h9) rfl dX8_begin_45 ?_
  refine lv_icmp_ge (tgt := 72) hx hb dX8_begin_48 (by decide) (fun c_3 => ?_) (fun c_3 => ?_)
  · refine lv_aload_n hx hb dX8_begin_72 rfl (lv_at hl 1 rfl) ?_
    refine va_get (D := D) (ci := 7) (v := .ref a0) (C := RX8) (T := TX8) (N := 13) hx hb hts inX8 hown hK hP 0 rfl rfl 0 (by decide) fl11 (fun _ h9 => h9) rfl dX8_begin_73 ?_
    refine lv_aload_n hx hb dX8_begin_76 rfl (lv_at hl 1 rfl) ?_
    refine x_calli (w1 := fun (u : Unit) => [(h0, .inr (7, [.ref a0, .ref a1, .ref a2, .ref a3, .ref a4, .int (-2), .int 0, .int 1, .int 1, .int 0, .int 0, .int 0, .long 0]))]) (wr := [(a0, .inl (y 3, 1359, .inr (.inl f))), (g0, .inr (5, [.int 0, .int 0, .int 0, .int 0, .int 0, .int 0, .ref d0, .int 0, .ref d1, .ref d2, .ref d3, .ref d4, .ref d5]))]) (ws' := fun (u : Unit) => [(h0, .inr (7, [.ref a0, .ref a1, .ref a2, .ref a3, .ref a4, .int (-2), .int 0, .int 1, .int 1, .int 0, .int 0, .int 0, .long 0])), (a0, .inl (y 3, 1359, .inr (.inl f))), (g0, .inr (5, [.int 0, .int 0, .int 0, .int 0, .int 0, .int 0, .ref d0, .int 0, .ref d1, .ref d2, .ref d3, .ref d4, .ref d5]))]) (va_runV (As := []) (rest := [.ref a0]) ⟨hx, hb, hml, hown, hts⟩ (c_Tape_zeroAt l D y H.size h0 a0 a1 a2 a3 a4 (-2) 0 1 1 0 0 0 0) (cwV 0 hts g_c_Tape_begin0_1 rfl rfl rfl (by decide +kernel) ⟨Nat.le_of_ble_eq_true rfl, Nat.le_of_ble_eq_true rfl⟩) (x_preV (q := (RX8, TX8, 13)) hK (x_subP hP [0] rfl) (x_subD hD [0] rfl (by decide)) (ci := 7) (q0 := 0) rfl rfl) rfl rfl hl.1 rfl (lv_room (Nat.le_of_ble_eq_true rfl)) dX8_begin_77 ⟨Nat.le_of_ble_eq_true rfl, Nat.le_of_ble_eq_true rfl⟩) hP hD hS hA [0] [1, 2] rfl rfl (by decide) (by decide) [2, 0, 1] (fun _ => rfl) (by decide) (fun r_4 u H locs hw hP hD hS => ?_)
    try dsimp only at hw
    obtain rfl : r_4 = 0 := hw
    have hP : va_P D vwCl [(h0, .inr (7, [.ref a0, .ref a1, .ref a2, .ref a3, .ref a4, .int (-2), .int 0, .int 1, .int 1, .int 0, .int 0, .int 0, .long 0])), (a0, .inl (y 3, 1359, .inr (.inl f))), (g0, .inr (5, [.int 0, .int 0, .int 0, .int 0, .int 0, .int 0, .ref d0, .int 0, .ref d1, .ref d2, .ref d3, .ref d4, .ref d5]))] H := hP
    have hD : va_D A [(h0, .inr (7, [.ref a0, .ref a1, .ref a2, .ref a3, .ref a4, .int (-2), .int 0, .int 1, .int 1, .int 0, .int 0, .int 0, .long 0])), (a0, .inl (y 3, 1359, .inr (.inl f))), (g0, .inr (5, [.int 0, .int 0, .int 0, .int 0, .int 0, .int 0, .ref d0, .int 0, .ref d1, .ref d2, .ref d3, .ref d4, .ref d5]))] := hD
    refine lv_lconst (v := 1) hx hb dX8_begin_80 (by decide) ?_
    refine va_last hx hb hK hP hD hS 1 3 rfl rfl (x_in (by decide) (by decide)) dX8_begin_81 (fun H locs hP hD hS => ?_)
    have hP : va_P D vwCl [(h0, .inr (7, [.ref a0, .ref a1, .ref a2, .ref a3, .ref a4, .int (-2), .int 0, .int 1, .int 1, .int 0, .int 0, .int 0, .long 0])), (a0, .inl (y 3, 1359, .inr (.inl (vp_updL f (Int32.toNatClampNeg 0) 1)))), (g0, .inr (5, [.int 0, .int 0, .int 0, .int 0, .int 0, .int 0, .ref d0, .int 0, .ref d1, .ref d2, .ref d3, .ref d4, .ref d5]))] H := hP
    have hD : va_D A [(h0, .inr (7, [.ref a0, .ref a1, .ref a2, .ref a3, .ref a4, .int (-2), .int 0, .int 1, .int 1, .int 0, .int 0, .int 0, .long 0])), (a0, .inl (y 3, 1359, .inr (.inl (vp_updL f (Int32.toNatClampNeg 0) 1)))), (g0, .inr (5, [.int 0, .int 0, .int 0, .int 0, .int 0, .int 0, .ref d0, .int 0, .ref d1, .ref d2, .ref d3, .ref d4, .ref d5]))] := hD
    refine lv_iconst (v := 0) hx hb dX8_begin_82 (by decide) ?_
    refine lv_istore_n (lv' := [(3, .int 0), (0, .ref h0), (1, .ref g0), (2, .ref v0)]) hx hb dX8_begin_83 rfl hl (by decide) rfl (fun ls hl => ?_)
    refine lv_iload_n hx hb dX8_begin_84 rfl (lv_at hl 0 rfl) ?_
    refine lv_aload_n hx hb dX8_begin_85 rfl (lv_at hl 2 rfl) ?_
    refine va_get (D := D) (ci := 5) (v := .int 0) (C := RX6) (T := TX6) (N := 13) hx hb hts inX6 hown hK hP 2 rfl rfl 4 (by decide) fl60 (fun _ h9 => h9) rfl dX8_begin_86 ?_
    refine lv_icmp_ge (tgt := 118) hx hb dX8_begin_89 (by decide) (fun c_5 => ?_) (fun c_5 => ?_)
    · exact x_vret (u := (vp_updL f (Int32.toNatClampNeg 0) 1)) hx hb hr trivial hP hD hK hS [0, 1, 2] rfl (by decide) dX8_begin_118 hlocks hQ
    · exact absurd (by decide) c_5
  · exact absurd (by decide) c_3

def v_c_Machine_play0 : List Cond := .code yX4_play cX4_play 6 (some .int) :: ([.fieldLink RX4 20 "SlopeRunner$Machine" "program" "LSlopeRunner$Program;", .fieldLink RX4 24 "SlopeRunner$Machine" "tape" "LSlopeRunner$Tape;", .fieldLink RX4 28 "SlopeRunner$Machine" "top" "I", .fieldLink RX4 32 "SlopeRunner$Machine" "at" "I", .fieldLink RX4 17 "SlopeRunner$Machine" "held" "[I", .fieldLink RX4 45 "SlopeRunner$Tape" "state" "I", .fieldLink RX4 35 "SlopeRunner$Program" "inputs" "I", .constant RX4 44 701400] ++ ((wsV RX4 48 RX6 yX6_whatAt v_c_Program_whatAt0) ++ ((wsV RX4 52 RX6 yX6_argumentAt v_c_Program_argumentAt0) ++ ((wsV RX4 38 RX8 yX8_zeroAt v_c_Tape_zeroAt) ++ (wsX40 ++ (wsX80 ++ wsX60))))))
theorem g_c_Machine_play0_0 : GoodIn v_c_Machine_play0 (wsV RX4 48 RX6 yX6_whatAt v_c_Program_whatAt0) := goodIn_sub (fun w h => List.mem_cons_of_mem _ (List.mem_append_right _ (List.mem_append_left _ h))) (by decide +kernel)
theorem g_c_Machine_play0_1 : GoodIn v_c_Machine_play0 (wsV RX4 52 RX6 yX6_argumentAt v_c_Program_argumentAt0) := goodIn_sub (fun w h => List.mem_cons_of_mem _ (List.mem_append_right _ (List.mem_append_right _ (List.mem_append_left _ h)))) (by decide +kernel)
theorem g_c_Machine_play0_2 : GoodIn v_c_Machine_play0 (wsV RX4 38 RX8 yX8_zeroAt v_c_Tape_zeroAt) := goodIn_sub (fun w h => List.mem_cons_of_mem _ (List.mem_append_right _ (List.mem_append_right _ (List.mem_append_right _ (List.mem_append_left _ h))))) (by decide +kernel)
set_option maxHeartbeats 4000000 in
set_option maxRecDepth 100000 in
theorem c_Machine_play0 (l : Launch) (D : va_G) (y : Nat → ClassId) (sz : Nat) (m0 e0 e1 h0 a0 a1 a2 a3 a4 g0 d0 d1 d2 d3 d4 d5 : Nat) (tp ma : Int32) (ni fs sz0 sp nr ed : Int32) (nn : Int64) (f : Nat → Int32) : Met l yX4_play v_c_Machine_play0 ({ frames := 1, cells := 0, slots := 0, locals := 21 } : Room) (va_Pc [.ref m0, .ref g0, .ref h0] (xPre D (xT y) [(m0, .inr (3, [.ref e0, .ref e1, .null, .null, .int tp, .int ma])), (e1, .inl (y 2, 84, .inl f)), (h0, .inr (7, [.ref a0, .ref a1, .ref a2, .ref a3, .ref a4, .int (-2), .int ni, .int fs, .int sz0, .int sp, .int nr, .int ed, .long nn])), (g0, .inr (5, [.int 0, .int 0, .int 0, .int 0, .int 0, .int 0, .ref d0, .int 0, .ref d1, .ref d2, .ref d3, .ref d4, .ref d5]))] sz)) (va_Qi (fun (r : Int32) (_ : Nat → Int32) => r = 0) (fun (u : Nat → Int32) => xB D (xT y) (va_A [(m0, .inr (3, [.ref e0, .ref e1, .null, .null, .int tp, .int ma])), (e1, .inl (y 2, 84, .inl f)), (h0, .inr (7, [.ref a0, .ref a1, .ref a2, .ref a3, .ref a4, .int (-2), .int ni, .int fs, .int sz0, .int sp, .int nr, .int ed, .long nn])), (g0, .inr (5, [.int 0, .int 0, .int 0, .int 0, .int 0, .int 0, .ref d0, .int 0, .ref d1, .ref d2, .ref d3, .ref d4, .ref d5]))] sz) [(m0, .inr (3, [.ref e0, .ref e1, .ref g0, .ref h0, .int 0, .int 1])), (e1, .inl (y 2, 84, .inl u)), (h0, .inr (7, [.ref a0, .ref a1, .ref a2, .ref a3, .ref a4, .int 0, .int ni, .int fs, .int sz0, .int sp, .int nr, .int ed, .long nn])), (g0, .inr (5, [.int 0, .int 0, .int 0, .int 0, .int 0, .int 0, .ref d0, .int 0, .ref d1, .ref d2, .ref d3, .ref d4, .ref d5]))]) (va_A [(m0, .inr (3, [.ref e0, .ref e1, .null, .null, .int tp, .int ma])), (e1, .inl (y 2, 84, .inl f)), (h0, .inr (7, [.ref a0, .ref a1, .ref a2, .ref a3, .ref a4, .int (-2), .int ni, .int fs, .int sz0, .int sp, .int nr, .int ed, .long nn])), (g0, .inr (5, [.int 0, .int 0, .int 0, .int 0, .int 0, .int 0, .ref d0, .int 0, .ref d1, .ref d2, .ref d3, .ref d4, .ref d5]))] sz)) 0 0 (va_A [(m0, .inr (3, [.ref e0, .ref e1, .null, .null, .int tp, .int ma])), (e1, .inl (y 2, 84, .inl f)), (h0, .inr (7, [.ref a0, .ref a1, .ref a2, .ref a3, .ref a4, .int (-2), .int ni, .int fs, .int sz0, .int sp, .int nr, .int ed, .long nn])), (g0, .inr (5, [.int 0, .int 0, .int 0, .int 0, .int 0, .int 0, .ref d0, .int 0, .ref d1, .ref d2, .ref d3, .ref d4, .ref d5]))] sz) := by
  refine x_meti (cc := cX4_play) (maxL := 6) (by decide) rfl (Nat.le_of_ble_eq_true rfl) ?_
  intro p e s m below meth c A H locs Q hx hb hml hown hts hr hlocks hmn hA hP hK hD hS ls hl hQ
  have hl : lv_has ls 6 [(0, .ref m0), (1, .ref g0), (2, .ref h0)] := hl
  have fl20 := hts (.fieldLink RX4 20 "SlopeRunner$Machine" "program" "LSlopeRunner$Program;") (by decide +kernel)
  have inX4 : ∀ w ∈ wsX40, w ∈ v_c_Machine_play0 := (fun w h => List.mem_cons_of_mem _ (List.mem_append_right _ (List.mem_append_right _ (List.mem_append_right _ (List.mem_append_right _ (List.mem_append_left _ h))))))
  have fl24 := hts (.fieldLink RX4 24 "SlopeRunner$Machine" "tape" "LSlopeRunner$Tape;") (by decide +kernel)
  have fl28 := hts (.fieldLink RX4 28 "SlopeRunner$Machine" "top" "I") (by decide +kernel)
  have fl32 := hts (.fieldLink RX4 32 "SlopeRunner$Machine" "at" "I") (by decide +kernel)
  have fl17 := hts (.fieldLink RX4 17 "SlopeRunner$Machine" "held" "[I") (by decide +kernel)
  have fl45 := hts (.fieldLink RX4 45 "SlopeRunner$Tape" "state" "I") (by decide +kernel)
  have inX8 : ∀ w ∈ wsX80, w ∈ v_c_Machine_play0 := (fun w h => List.mem_cons_of_mem _ (List.mem_append_right _ (List.mem_append_right _ (List.mem_append_right _ (List.mem_append_right _ (List.mem_append_right _ (List.mem_append_left _ h)))))))
  have fl35 := hts (.fieldLink RX4 35 "SlopeRunner$Program" "inputs" "I") (by decide +kernel)
  have inX6 : ∀ w ∈ wsX60, w ∈ v_c_Machine_play0 := (fun w h => List.mem_cons_of_mem _ (List.mem_append_right _ (List.mem_append_right _ (List.mem_append_right _ (List.mem_append_right _ (List.mem_append_right _ (List.mem_append_right _ h)))))))
  refine lv_aload_n hx hb dX4_play_0 rfl (lv_at hl 0 rfl) ?_
  refine lv_aload_n hx hb dX4_play_1 rfl (lv_at hl 1 rfl) ?_
  refine va_put (D := D) (ci := 3) (v := .ref g0) (ty := (.object "SlopeRunner$Program")) (C := RX4) (T := TX4) (N := 6) hx hb hts inX4 tyX4 tyX4_ok nmX4 hown hK hP hD hS 0 rfl rfl 2 (by decide) fl20 (fun _ h9 => h9) rfl (by decide +kernel) rfl rfl (Nat.le_of_ble_eq_true rfl) dX4_play_2 (fun H locs hP hD hS => ?_)
  have hP : va_P D vwCl [(m0, .inr (3, [.ref e0, .ref e1, .ref g0, .null, .int tp, .int ma])), (e1, .inl (y 2, 84, .inl f)), (h0, .inr (7, [.ref a0, .ref a1, .ref a2, .ref a3, .ref a4, .int (-2), .int ni, .int fs, .int sz0, .int sp, .int nr, .int ed, .long nn])), (g0, .inr (5, [.int 0, .int 0, .int 0, .int 0, .int 0, .int 0, .ref d0, .int 0, .ref d1, .ref d2, .ref d3, .ref d4, .ref d5]))] H := hP
  have hD : va_D A [(m0, .inr (3, [.ref e0, .ref e1, .ref g0, .null, .int tp, .int ma])), (e1, .inl (y 2, 84, .inl f)), (h0, .inr (7, [.ref a0, .ref a1, .ref a2, .ref a3, .ref a4, .int (-2), .int ni, .int fs, .int sz0, .int sp, .int nr, .int ed, .long nn])), (g0, .inr (5, [.int 0, .int 0, .int 0, .int 0, .int 0, .int 0, .ref d0, .int 0, .ref d1, .ref d2, .ref d3, .ref d4, .ref d5]))] := hD
  refine lv_aload_n hx hb dX4_play_5 rfl (lv_at hl 0 rfl) ?_
  refine lv_aload_n hx hb dX4_play_6 rfl (lv_at hl 2 rfl) ?_
  refine va_put (D := D) (ci := 3) (v := .ref h0) (ty := (.object "SlopeRunner$Tape")) (C := RX4) (T := TX4) (N := 6) hx hb hts inX4 tyX4 tyX4_ok nmX4 hown hK hP hD hS 0 rfl rfl 3 (by decide) fl24 (fun _ h9 => h9) rfl (by decide +kernel) rfl rfl (Nat.le_of_ble_eq_true rfl) dX4_play_7 (fun H locs hP hD hS => ?_)
  have hP : va_P D vwCl [(m0, .inr (3, [.ref e0, .ref e1, .ref g0, .ref h0, .int tp, .int ma])), (e1, .inl (y 2, 84, .inl f)), (h0, .inr (7, [.ref a0, .ref a1, .ref a2, .ref a3, .ref a4, .int (-2), .int ni, .int fs, .int sz0, .int sp, .int nr, .int ed, .long nn])), (g0, .inr (5, [.int 0, .int 0, .int 0, .int 0, .int 0, .int 0, .ref d0, .int 0, .ref d1, .ref d2, .ref d3, .ref d4, .ref d5]))] H := hP
  have hD : va_D A [(m0, .inr (3, [.ref e0, .ref e1, .ref g0, .ref h0, .int tp, .int ma])), (e1, .inl (y 2, 84, .inl f)), (h0, .inr (7, [.ref a0, .ref a1, .ref a2, .ref a3, .ref a4, .int (-2), .int ni, .int fs, .int sz0, .int sp, .int nr, .int ed, .long nn])), (g0, .inr (5, [.int 0, .int 0, .int 0, .int 0, .int 0, .int 0, .ref d0, .int 0, .ref d1, .ref d2, .ref d3, .ref d4, .ref d5]))] := hD
  refine lv_aload_n hx hb dX4_play_10 rfl (lv_at hl 0 rfl) ?_
  refine lv_iconst (v := 0) hx hb dX4_play_11 (by decide) ?_
  refine va_put (D := D) (ci := 3) (v := .int 0) (ty := .int) (C := RX4) (T := TX4) (N := 6) hx hb hts inX4 tyX4 tyX4_ok nmX4 hown hK hP hD hS 0 rfl rfl 4 (by decide) fl28 (fun _ h9 => h9) rfl (by decide +kernel) rfl rfl (Nat.le_of_ble_eq_true rfl) dX4_play_12 (fun H locs hP hD hS => ?_)
  have hP : va_P D vwCl [(m0, .inr (3, [.ref e0, .ref e1, .ref g0, .ref h0, .int 0, .int ma])), (e1, .inl (y 2, 84, .inl f)), (h0, .inr (7, [.ref a0, .ref a1, .ref a2, .ref a3, .ref a4, .int (-2), .int ni, .int fs, .int sz0, .int sp, .int nr, .int ed, .long nn])), (g0, .inr (5, [.int 0, .int 0, .int 0, .int 0, .int 0, .int 0, .ref d0, .int 0, .ref d1, .ref d2, .ref d3, .ref d4, .ref d5]))] H := hP
  have hD : va_D A [(m0, .inr (3, [.ref e0, .ref e1, .ref g0, .ref h0, .int 0, .int ma])), (e1, .inl (y 2, 84, .inl f)), (h0, .inr (7, [.ref a0, .ref a1, .ref a2, .ref a3, .ref a4, .int (-2), .int ni, .int fs, .int sz0, .int sp, .int nr, .int ed, .long nn])), (g0, .inr (5, [.int 0, .int 0, .int 0, .int 0, .int 0, .int 0, .ref d0, .int 0, .ref d1, .ref d2, .ref d3, .ref d4, .ref d5]))] := hD
  refine lv_aload_n hx hb dX4_play_15 rfl (lv_at hl 0 rfl) ?_
  refine lv_iconst (v := 0) hx hb dX4_play_16 (by decide) ?_
  refine va_put (D := D) (ci := 3) (v := .int 0) (ty := .int) (C := RX4) (T := TX4) (N := 6) hx hb hts inX4 tyX4 tyX4_ok nmX4 hown hK hP hD hS 0 rfl rfl 5 (by decide) fl32 (fun _ h9 => h9) rfl (by decide +kernel) rfl rfl (Nat.le_of_ble_eq_true rfl) dX4_play_17 (fun H locs hP hD hS => ?_)
  have hP : va_P D vwCl [(m0, .inr (3, [.ref e0, .ref e1, .ref g0, .ref h0, .int 0, .int 0])), (e1, .inl (y 2, 84, .inl f)), (h0, .inr (7, [.ref a0, .ref a1, .ref a2, .ref a3, .ref a4, .int (-2), .int ni, .int fs, .int sz0, .int sp, .int nr, .int ed, .long nn])), (g0, .inr (5, [.int 0, .int 0, .int 0, .int 0, .int 0, .int 0, .ref d0, .int 0, .ref d1, .ref d2, .ref d3, .ref d4, .ref d5]))] H := hP
  have hD : va_D A [(m0, .inr (3, [.ref e0, .ref e1, .ref g0, .ref h0, .int 0, .int 0])), (e1, .inl (y 2, 84, .inl f)), (h0, .inr (7, [.ref a0, .ref a1, .ref a2, .ref a3, .ref a4, .int (-2), .int ni, .int fs, .int sz0, .int sp, .int nr, .int ed, .long nn])), (g0, .inr (5, [.int 0, .int 0, .int 0, .int 0, .int 0, .int 0, .ref d0, .int 0, .ref d1, .ref d2, .ref d3, .ref d4, .ref d5]))] := hD
  refine lv_iconst (v := 0) hx hb dX4_play_20 (by decide) ?_
  refine lv_istore_n (lv' := [(3, .int 0), (0, .ref m0), (1, .ref g0), (2, .ref h0)]) hx hb dX4_play_21 rfl hl (by decide) rfl (fun ls hl => ?_)
  have loop : ∀ (fu : Nat) (i : Int32) (f : Nat → Int32) (H : Heap) (locs : List Loc) (ls : Array Slot), 0 ≤ i.toInt → i.toInt ≤ 84 → ((84 : Int) - i.toInt < (fu : Int)) → va_P D vwCl [(m0, .inr (3, [.ref e0, .ref e1, .ref g0, .ref h0, .int 0, .int 0])), (e1, .inl (y 2, 84, .inl f)), (h0, .inr (7, [.ref a0, .ref a1, .ref a2, .ref a3, .ref a4, .int (-2), .int ni, .int fs, .int sz0, .int sp, .int nr, .int ed, .long nn])), (g0, .inr (5, [.int 0, .int 0, .int 0, .int 0, .int 0, .int 0, .ref d0, .int 0, .ref d1, .ref d2, .ref d3, .ref d4, .ref d5]))] H → va_D A [(m0, .inr (3, [.ref e0, .ref e1, .ref g0, .ref h0, .int 0, .int 0])), (e1, .inl (y 2, 84, .inl f)), (h0, .inr (7, [.ref a0, .ref a1, .ref a2, .ref a3, .ref a4, .int (-2), .int ni, .int fs, .int sz0, .int sp, .int nr, .int ed, .long nn])), (g0, .inr (5, [.int 0, .int 0, .int 0, .int 0, .int 0, .int 0, .ref d0, .int 0, .ref d1, .ref d2, .ref d3, .ref d4, .ref d5]))] → va_S A s.heap H locs → lv_has ls 6 [(3, .int i), (0, .ref m0), (1, .ref g0), (2, .ref h0)] → W p l e ({ frames := 1, cells := 0, slots := 0, locals := 21 } : Room) s m ([.ref m0, .ref g0, .ref h0] : List Value).toArray below meth c H locs 0 0 Q (F0 m 22 ls []) := by
    intro fu
    induction fu with
    | zero =>
      intro i f H locs ls hi0 hi1 hm
      exact absurd hm (by omega)
    | succ fu ih =>
      intro i f H locs ls hi0 hi1 hm hP hD hS hl
      refine lv_iload_n hx hb dX4_play_22 rfl (lv_at hl 0 rfl) ?_
      refine lv_aload_n hx hb dX4_play_23 rfl (lv_at hl 1 rfl) ?_
      refine va_get (D := D) (ci := 3) (v := .ref e1) (C := RX4) (T := TX4) (N := 6) hx hb hts inX4 hown hK hP 0 rfl rfl 1 (by decide) fl17 (fun _ h9 => h9) rfl dX4_play_24 ?_
      refine va_alen hx hb hK hP 1 2 rfl rfl (v := 84) rfl dX4_play_27 ?_
      refine lv_icmp_ge (tgt := 65) hx hb dX4_play_28 (by decide) (fun c_1 => ?_) (fun c_1 => ?_)
      · refine lv_iconst (v := 0) hx hb dX4_play_65 (by decide) ?_
        refine lv_istore_n (lv' := [(3, .int 0), (0, .ref m0), (1, .ref g0), (2, .ref h0)]) hx hb dX4_play_66 rfl hl (by decide) rfl (fun ls hl => ?_)
        refine lv_iload_n hx hb dX4_play_67 rfl (lv_at hl 0 rfl) ?_
        refine lv_ldc (v := 701400) hx hb hown (hts (.constant RX4 44 701400) (by decide +kernel)) dX4_play_68 ?_
        refine lv_icmp_ge (tgt := 185) hx hb dX4_play_70 (by decide) (fun c_2 => ?_) (fun c_2 => ?_)
        · exact absurd c_2 (by decide)
        · refine lv_aload_n hx hb dX4_play_73 rfl (lv_at hl 1 rfl) ?_
          refine va_get (D := D) (ci := 3) (v := .ref h0) (C := RX4) (T := TX4) (N := 6) hx hb hts inX4 hown hK hP 0 rfl rfl 3 (by decide) fl24 (fun _ h9 => h9) rfl dX4_play_74 ?_
          refine va_get (D := D) (ci := 7) (v := .int (-2)) (C := RX8) (T := TX8) (N := 13) hx hb hts inX8 hown hK hP 2 rfl rfl 5 (by decide) fl45 (fun _ h9 => h9) rfl dX4_play_77 ?_
          refine lv_bipush (v := (-2)) hx hb dX4_play_80 (by decide) ?_
          refine lv_icmp_ne (tgt := 185) hx hb dX4_play_82 (by decide) (fun c_3 => ?_) (fun c_3 => ?_)
          · exact absurd (by decide) c_3
          · refine lv_aload_n hx hb dX4_play_85 rfl (lv_at hl 1 rfl) ?_
            refine va_get (D := D) (ci := 3) (v := .ref g0) (C := RX4) (T := TX4) (N := 6) hx hb hts inX4 hown hK hP 0 rfl rfl 2 (by decide) fl20 (fun _ h9 => h9) rfl dX4_play_86 ?_
            refine lv_aload_n hx hb dX4_play_89 rfl (lv_at hl 1 rfl) ?_
            refine va_get (D := D) (ci := 3) (v := .int 0) (C := RX4) (T := TX4) (N := 6) hx hb hts inX4 hown hK hP 0 rfl rfl 5 (by decide) fl32 (fun _ h9 => h9) rfl dX4_play_90 ?_
            refine x_calli (w1 := fun (u : Unit) => [(g0, .inr (5, [.int 0, .int 0, .int 0, .int 0, .int 0, .int 0, .ref d0, .int 0, .ref d1, .ref d2, .ref d3, .ref d4, .ref d5]))]) (wr := [(m0, .inr (3, [.ref e0, .ref e1, .ref g0, .ref h0, .int 0, .int 0])), (e1, .inl (y 2, 84, .inl f)), (h0, .inr (7, [.ref a0, .ref a1, .ref a2, .ref a3, .ref a4, .int (-2), .int ni, .int fs, .int sz0, .int sp, .int nr, .int ed, .long nn]))]) (ws' := fun (u : Unit) => [(m0, .inr (3, [.ref e0, .ref e1, .ref g0, .ref h0, .int 0, .int 0])), (e1, .inl (y 2, 84, .inl f)), (h0, .inr (7, [.ref a0, .ref a1, .ref a2, .ref a3, .ref a4, .int (-2), .int ni, .int fs, .int sz0, .int sp, .int nr, .int ed, .long nn])), (g0, .inr (5, [.int 0, .int 0, .int 0, .int 0, .int 0, .int 0, .ref d0, .int 0, .ref d1, .ref d2, .ref d3, .ref d4, .ref d5]))]) (va_runV (As := [.int 0]) (rest := []) ⟨hx, hb, hml, hown, hts⟩ (c_Program_whatAt0 l D y H.size g0 d0 d1 d2 d3 d4 d5 0 0 0 0 0 0 0) (cwV 1 hts g_c_Machine_play0_0 rfl rfl rfl (by decide +kernel) ⟨Nat.le_of_ble_eq_true rfl, Nat.le_of_ble_eq_true rfl⟩) (x_preV (q := (RX6, TX6, 13)) hK (x_subP hP [3] rfl) (x_subD hD [3] rfl (by decide)) (ci := 5) (q0 := 0) rfl rfl) rfl rfl hl.1 rfl (lv_room (Nat.le_of_ble_eq_true rfl)) dX4_play_93 ⟨Nat.le_of_ble_eq_true rfl, Nat.le_of_ble_eq_true rfl⟩) hP hD hS hA [3] [0, 1, 2] rfl rfl (by decide) (by decide) [0, 1, 2, 3] (fun _ => rfl) (by decide) (fun r_4 u H locs hw hP hD hS => ?_)
            try dsimp only at hw
            obtain rfl : r_4 = (-1) := hw
            have hP : va_P D vwCl [(m0, .inr (3, [.ref e0, .ref e1, .ref g0, .ref h0, .int 0, .int 0])), (e1, .inl (y 2, 84, .inl f)), (h0, .inr (7, [.ref a0, .ref a1, .ref a2, .ref a3, .ref a4, .int (-2), .int ni, .int fs, .int sz0, .int sp, .int nr, .int ed, .long nn])), (g0, .inr (5, [.int 0, .int 0, .int 0, .int 0, .int 0, .int 0, .ref d0, .int 0, .ref d1, .ref d2, .ref d3, .ref d4, .ref d5]))] H := hP
            have hD : va_D A [(m0, .inr (3, [.ref e0, .ref e1, .ref g0, .ref h0, .int 0, .int 0])), (e1, .inl (y 2, 84, .inl f)), (h0, .inr (7, [.ref a0, .ref a1, .ref a2, .ref a3, .ref a4, .int (-2), .int ni, .int fs, .int sz0, .int sp, .int nr, .int ed, .long nn])), (g0, .inr (5, [.int 0, .int 0, .int 0, .int 0, .int 0, .int 0, .ref d0, .int 0, .ref d1, .ref d2, .ref d3, .ref d4, .ref d5]))] := hD
            refine lv_istore (lv' := [(4, .int (-1)), (3, .int 0), (0, .ref m0), (1, .ref g0), (2, .ref h0)]) hx hb dX4_play_96 hl (by decide) rfl (fun ls hl => ?_)
            refine lv_aload_n hx hb dX4_play_98 rfl (lv_at hl 2 rfl) ?_
            refine va_get (D := D) (ci := 3) (v := .ref g0) (C := RX4) (T := TX4) (N := 6) hx hb hts inX4 hown hK hP 0 rfl rfl 2 (by decide) fl20 (fun _ h9 => h9) rfl dX4_play_99 ?_
            refine lv_aload_n hx hb dX4_play_102 rfl (lv_at hl 2 rfl) ?_
            refine va_get (D := D) (ci := 3) (v := .int 0) (C := RX4) (T := TX4) (N := 6) hx hb hts inX4 hown hK hP 0 rfl rfl 5 (by decide) fl32 (fun _ h9 => h9) rfl dX4_play_103 ?_
            refine x_calli (w1 := fun (u : Unit) => [(g0, .inr (5, [.int 0, .int 0, .int 0, .int 0, .int 0, .int 0, .ref d0, .int 0, .ref d1, .ref d2, .ref d3, .ref d4, .ref d5]))]) (wr := [(m0, .inr (3, [.ref e0, .ref e1, .ref g0, .ref h0, .int 0, .int 0])), (e1, .inl (y 2, 84, .inl f)), (h0, .inr (7, [.ref a0, .ref a1, .ref a2, .ref a3, .ref a4, .int (-2), .int ni, .int fs, .int sz0, .int sp, .int nr, .int ed, .long nn]))]) (ws' := fun (u : Unit) => [(m0, .inr (3, [.ref e0, .ref e1, .ref g0, .ref h0, .int 0, .int 0])), (e1, .inl (y 2, 84, .inl f)), (h0, .inr (7, [.ref a0, .ref a1, .ref a2, .ref a3, .ref a4, .int (-2), .int ni, .int fs, .int sz0, .int sp, .int nr, .int ed, .long nn])), (g0, .inr (5, [.int 0, .int 0, .int 0, .int 0, .int 0, .int 0, .ref d0, .int 0, .ref d1, .ref d2, .ref d3, .ref d4, .ref d5]))]) (va_runV (As := [.int 0]) (rest := []) ⟨hx, hb, hml, hown, hts⟩ (c_Program_argumentAt0 l D y H.size g0 d0 d1 d2 d3 d4 d5 0 0 0 0 0 0 0) (cwV 1 hts g_c_Machine_play0_1 rfl rfl rfl (by decide +kernel) ⟨Nat.le_of_ble_eq_true rfl, Nat.le_of_ble_eq_true rfl⟩) (x_preV (q := (RX6, TX6, 13)) hK (x_subP hP [3] rfl) (x_subD hD [3] rfl (by decide)) (ci := 5) (q0 := 0) rfl rfl) rfl rfl hl.1 rfl (lv_room (Nat.le_of_ble_eq_true rfl)) dX4_play_106 ⟨Nat.le_of_ble_eq_true rfl, Nat.le_of_ble_eq_true rfl⟩) hP hD hS hA [3] [0, 1, 2] rfl rfl (by decide) (by decide) [0, 1, 2, 3] (fun _ => rfl) (by decide) (fun r_5 u H locs hw hP hD hS => ?_)
            try dsimp only at hw
            obtain rfl : r_5 = 0 := hw
            have hP : va_P D vwCl [(m0, .inr (3, [.ref e0, .ref e1, .ref g0, .ref h0, .int 0, .int 0])), (e1, .inl (y 2, 84, .inl f)), (h0, .inr (7, [.ref a0, .ref a1, .ref a2, .ref a3, .ref a4, .int (-2), .int ni, .int fs, .int sz0, .int sp, .int nr, .int ed, .long nn])), (g0, .inr (5, [.int 0, .int 0, .int 0, .int 0, .int 0, .int 0, .ref d0, .int 0, .ref d1, .ref d2, .ref d3, .ref d4, .ref d5]))] H := hP
            have hD : va_D A [(m0, .inr (3, [.ref e0, .ref e1, .ref g0, .ref h0, .int 0, .int 0])), (e1, .inl (y 2, 84, .inl f)), (h0, .inr (7, [.ref a0, .ref a1, .ref a2, .ref a3, .ref a4, .int (-2), .int ni, .int fs, .int sz0, .int sp, .int nr, .int ed, .long nn])), (g0, .inr (5, [.int 0, .int 0, .int 0, .int 0, .int 0, .int 0, .ref d0, .int 0, .ref d1, .ref d2, .ref d3, .ref d4, .ref d5]))] := hD
            refine lv_istore (lv' := [(5, .int 0), (4, .int (-1)), (3, .int 0), (0, .ref m0), (1, .ref g0), (2, .ref h0)]) hx hb dX4_play_109 hl (by decide) rfl (fun ls hl => ?_)
            refine lv_aload_n hx hb dX4_play_111 rfl (lv_at hl 3 rfl) ?_
            refine lv_dup hx hb dX4_play_112 rfl ?_
            refine va_get (D := D) (ci := 3) (v := .int 0) (C := RX4) (T := TX4) (N := 6) hx hb hts inX4 hown hK hP 0 rfl rfl 5 (by decide) fl32 (fun _ h9 => h9) rfl dX4_play_113 ?_
            refine lv_iconst (v := 1) hx hb dX4_play_116 (by decide) ?_
            refine lv_iadd hx hb dX4_play_117 ?_
            refine lv_topi (fun i_6 ei_6 => ?_)
            obtain rfl : i_6 = 1 := ei_6.trans (by decide)
            refine va_put (D := D) (ci := 3) (v := .int 1) (ty := .int) (C := RX4) (T := TX4) (N := 6) hx hb hts inX4 tyX4 tyX4_ok nmX4 hown hK hP hD hS 0 rfl rfl 5 (by decide) fl32 (fun _ h9 => h9) rfl (by decide +kernel) rfl rfl (Nat.le_of_ble_eq_true rfl) dX4_play_118 (fun H locs hP hD hS => ?_)
            have hP : va_P D vwCl [(m0, .inr (3, [.ref e0, .ref e1, .ref g0, .ref h0, .int 0, .int 1])), (e1, .inl (y 2, 84, .inl f)), (h0, .inr (7, [.ref a0, .ref a1, .ref a2, .ref a3, .ref a4, .int (-2), .int ni, .int fs, .int sz0, .int sp, .int nr, .int ed, .long nn])), (g0, .inr (5, [.int 0, .int 0, .int 0, .int 0, .int 0, .int 0, .ref d0, .int 0, .ref d1, .ref d2, .ref d3, .ref d4, .ref d5]))] H := hP
            have hD : va_D A [(m0, .inr (3, [.ref e0, .ref e1, .ref g0, .ref h0, .int 0, .int 1])), (e1, .inl (y 2, 84, .inl f)), (h0, .inr (7, [.ref a0, .ref a1, .ref a2, .ref a3, .ref a4, .int (-2), .int ni, .int fs, .int sz0, .int sp, .int nr, .int ed, .long nn])), (g0, .inr (5, [.int 0, .int 0, .int 0, .int 0, .int 0, .int 0, .ref d0, .int 0, .ref d1, .ref d2, .ref d3, .ref d4, .ref d5]))] := hD
            refine lv_iload hx hb dX4_play_121 (lv_at hl 1 rfl) ?_
            refine lv_iconst (v := (-1)) hx hb dX4_play_123 (by decide) ?_
            refine lv_icmp_ne (tgt := 138) hx hb dX4_play_124 (by decide) (fun c_7 => ?_) (fun c_7 => ?_)
            · exact absurd (by decide) c_7
            · refine lv_aload_n hx hb dX4_play_127 rfl (lv_at hl 3 rfl) ?_
              refine va_get (D := D) (ci := 3) (v := .ref h0) (C := RX4) (T := TX4) (N := 6) hx hb hts inX4 hown hK hP 0 rfl rfl 3 (by decide) fl24 (fun _ h9 => h9) rfl dX4_play_128 ?_
              refine lv_iconst (v := 0) hx hb dX4_play_131 (by decide) ?_
              refine va_put (D := D) (ci := 7) (v := .int 0) (ty := .int) (C := RX8) (T := TX8) (N := 13) hx hb hts inX8 tyX8 tyX8_ok nmX8 hown hK hP hD hS 2 rfl rfl 5 (by decide) fl45 (fun _ h9 => h9) rfl (by decide +kernel) rfl rfl (Nat.le_of_ble_eq_true rfl) dX4_play_132 (fun H locs hP hD hS => ?_)
              have hP : va_P D vwCl [(m0, .inr (3, [.ref e0, .ref e1, .ref g0, .ref h0, .int 0, .int 1])), (e1, .inl (y 2, 84, .inl f)), (h0, .inr (7, [.ref a0, .ref a1, .ref a2, .ref a3, .ref a4, .int 0, .int ni, .int fs, .int sz0, .int sp, .int nr, .int ed, .long nn])), (g0, .inr (5, [.int 0, .int 0, .int 0, .int 0, .int 0, .int 0, .ref d0, .int 0, .ref d1, .ref d2, .ref d3, .ref d4, .ref d5]))] H := hP
              have hD : va_D A [(m0, .inr (3, [.ref e0, .ref e1, .ref g0, .ref h0, .int 0, .int 1])), (e1, .inl (y 2, 84, .inl f)), (h0, .inr (7, [.ref a0, .ref a1, .ref a2, .ref a3, .ref a4, .int 0, .int ni, .int fs, .int sz0, .int sp, .int nr, .int ed, .long nn])), (g0, .inr (5, [.int 0, .int 0, .int 0, .int 0, .int 0, .int 0, .ref d0, .int 0, .ref d1, .ref d2, .ref d3, .ref d4, .ref d5]))] := hD
              refine lv_goto (tgt := 179) hx hb dX4_play_135 (by decide) ?_
              refine lv_iinc (v := 1) (lv' := [(3, .int 1), (5, .int 0), (4, .int (-1)), (0, .ref m0), (1, .ref g0), (2, .ref h0)]) hx hb dX4_play_179 hl (k := 2) rfl (by decide) (by decide) rfl (fun ls hl => ?_)
              refine lv_goto (tgt := 67) hx hb dX4_play_182 (by decide) ?_
              refine lv_iload_n hx hb dX4_play_67 rfl (lv_at hl 0 rfl) ?_
              refine lv_ldc (v := 701400) hx hb hown (hts (.constant RX4 44 701400) (by decide +kernel)) dX4_play_68 ?_
              refine lv_icmp_ge (tgt := 185) hx hb dX4_play_70 (by decide) (fun c_8 => ?_) (fun c_8 => ?_)
              · exact absurd c_8 (by decide)
              · refine lv_aload_n hx hb dX4_play_73 rfl (lv_at hl 3 rfl) ?_
                refine va_get (D := D) (ci := 3) (v := .ref h0) (C := RX4) (T := TX4) (N := 6) hx hb hts inX4 hown hK hP 0 rfl rfl 3 (by decide) fl24 (fun _ h9 => h9) rfl dX4_play_74 ?_
                refine va_get (D := D) (ci := 7) (v := .int 0) (C := RX8) (T := TX8) (N := 13) hx hb hts inX8 hown hK hP 2 rfl rfl 5 (by decide) fl45 (fun _ h9 => h9) rfl dX4_play_77 ?_
                refine lv_bipush (v := (-2)) hx hb dX4_play_80 (by decide) ?_
                refine lv_icmp_ne (tgt := 185) hx hb dX4_play_82 (by decide) (fun c_9 => ?_) (fun c_9 => ?_)
                · refine lv_aload_n hx hb dX4_play_185 rfl (lv_at hl 3 rfl) ?_
                  refine va_get (D := D) (ci := 3) (v := .ref h0) (C := RX4) (T := TX4) (N := 6) hx hb hts inX4 hown hK hP 0 rfl rfl 3 (by decide) fl24 (fun _ h9 => h9) rfl dX4_play_186 ?_
                  refine va_get (D := D) (ci := 7) (v := .int 0) (C := RX8) (T := TX8) (N := 13) hx hb hts inX8 hown hK hP 2 rfl rfl 5 (by decide) fl45 (fun _ h9 => h9) rfl dX4_play_189 ?_
                  exact x_iret (v := 0) (u := f) hx hb hr rfl hP hD hK hS [0, 1, 2, 3] rfl (by decide) dX4_play_192 hlocks hQ
                · exact absurd c_9 (by decide)
      · refine lv_aload_n hx hb dX4_play_31 rfl (lv_at hl 1 rfl) ?_
        refine va_get (D := D) (ci := 3) (v := .ref e1) (C := RX4) (T := TX4) (N := 6) hx hb hts inX4 hown hK hP 0 rfl rfl 1 (by decide) fl17 (fun _ h9 => h9) rfl dX4_play_32 ?_
        refine lv_iload_n hx hb dX4_play_35 rfl (lv_at hl 0 rfl) ?_
        refine lv_iload_n hx hb dX4_play_36 rfl (lv_at hl 0 rfl) ?_
        refine lv_aload_n hx hb dX4_play_37 rfl (lv_at hl 1 rfl) ?_
        refine va_get (D := D) (ci := 3) (v := .ref g0) (C := RX4) (T := TX4) (N := 6) hx hb hts inX4 hown hK hP 0 rfl rfl 2 (by decide) fl20 (fun _ h9 => h9) rfl dX4_play_38 ?_
        refine va_get (D := D) (ci := 5) (v := .int 0) (C := RX6) (T := TX6) (N := 13) hx hb hts inX6 hown hK hP 3 rfl rfl 0 (by decide) fl35 (fun _ h9 => h9) rfl dX4_play_41 ?_
        refine lv_icmp_ge (tgt := 51) hx hb dX4_play_44 (by decide) (fun c_10 => ?_) (fun c_10 => ?_)
        · refine lv_aload_n hx hb dX4_play_51 rfl (lv_at hl 1 rfl) ?_
          refine va_get (D := D) (ci := 3) (v := .ref h0) (C := RX4) (T := TX4) (N := 6) hx hb hts inX4 hown hK hP 0 rfl rfl 3 (by decide) fl24 (fun _ h9 => h9) rfl dX4_play_52 ?_
          refine x_calli (w1 := fun (u : Unit) => [(h0, .inr (7, [.ref a0, .ref a1, .ref a2, .ref a3, .ref a4, .int (-2), .int ni, .int fs, .int sz0, .int sp, .int nr, .int ed, .long nn]))]) (wr := [(m0, .inr (3, [.ref e0, .ref e1, .ref g0, .ref h0, .int 0, .int 0])), (e1, .inl (y 2, 84, .inl f)), (g0, .inr (5, [.int 0, .int 0, .int 0, .int 0, .int 0, .int 0, .ref d0, .int 0, .ref d1, .ref d2, .ref d3, .ref d4, .ref d5]))]) (ws' := fun (u : Unit) => [(m0, .inr (3, [.ref e0, .ref e1, .ref g0, .ref h0, .int 0, .int 0])), (e1, .inl (y 2, 84, .inl f)), (h0, .inr (7, [.ref a0, .ref a1, .ref a2, .ref a3, .ref a4, .int (-2), .int ni, .int fs, .int sz0, .int sp, .int nr, .int ed, .long nn])), (g0, .inr (5, [.int 0, .int 0, .int 0, .int 0, .int 0, .int 0, .ref d0, .int 0, .ref d1, .ref d2, .ref d3, .ref d4, .ref d5]))]) (va_runV (As := []) (rest := [.int i, .ref e1]) ⟨hx, hb, hml, hown, hts⟩ (c_Tape_zeroAt l D y H.size h0 a0 a1 a2 a3 a4 (-2) ni fs sz0 sp nr ed nn) (cwV 0 hts g_c_Machine_play0_2 rfl rfl rfl (by decide +kernel) ⟨Nat.le_of_ble_eq_true rfl, Nat.le_of_ble_eq_true rfl⟩) (x_preV (q := (RX8, TX8, 13)) hK (x_subP hP [2] rfl) (x_subD hD [2] rfl (by decide)) (ci := 7) (q0 := 0) rfl rfl) rfl rfl hl.1 rfl (lv_room (Nat.le_of_ble_eq_true rfl)) dX4_play_55 ⟨Nat.le_of_ble_eq_true rfl, Nat.le_of_ble_eq_true rfl⟩) hP hD hS hA [2] [0, 1, 3] rfl rfl (by decide) (by decide) [0, 1, 3, 2] (fun _ => rfl) (by decide) (fun r_11 u H locs hw hP hD hS => ?_)
          try dsimp only at hw
          have hP : va_P D vwCl [(m0, .inr (3, [.ref e0, .ref e1, .ref g0, .ref h0, .int 0, .int 0])), (e1, .inl (y 2, 84, .inl f)), (h0, .inr (7, [.ref a0, .ref a1, .ref a2, .ref a3, .ref a4, .int (-2), .int ni, .int fs, .int sz0, .int sp, .int nr, .int ed, .long nn])), (g0, .inr (5, [.int 0, .int 0, .int 0, .int 0, .int 0, .int 0, .ref d0, .int 0, .ref d1, .ref d2, .ref d3, .ref d4, .ref d5]))] H := hP
          have hD : va_D A [(m0, .inr (3, [.ref e0, .ref e1, .ref g0, .ref h0, .int 0, .int 0])), (e1, .inl (y 2, 84, .inl f)), (h0, .inr (7, [.ref a0, .ref a1, .ref a2, .ref a3, .ref a4, .int (-2), .int ni, .int fs, .int sz0, .int sp, .int nr, .int ed, .long nn])), (g0, .inr (5, [.int 0, .int 0, .int 0, .int 0, .int 0, .int 0, .ref d0, .int 0, .ref d1, .ref d2, .ref d3, .ref d4, .ref d5]))] := hD
          refine va_iast hx hb hK hP hD hS 1 2 rfl rfl (x_in (by (try dsimp only); (try simp only [lg_cmp_lt, lg_cmp_le, lg_cmp_gt, lg_cmp_ge] at *); (try simp only [x_lt, x_le, Int32.reduceToInt, x_ltL, x_leL, Int64.reduceToInt] at *); omega) (by (try dsimp only); (try simp only [lg_cmp_lt, lg_cmp_le, lg_cmp_gt, lg_cmp_ge] at *); (try simp only [x_lt, x_le, Int32.reduceToInt, x_ltL, x_leL, Int64.reduceToInt] at *); omega)) dX4_play_58 (fun H locs hP hD hS => ?_)
          obtain ⟨f_12, ef_12⟩ : ∃ z : Nat → Int32, z = (upd f (Int32.toNatClampNeg i) r_11) := ⟨_, rfl⟩
          rw [← ef_12] at hP hD
          have hP : va_P D vwCl [(m0, .inr (3, [.ref e0, .ref e1, .ref g0, .ref h0, .int 0, .int 0])), (e1, .inl (y 2, 84, .inl f_12)), (h0, .inr (7, [.ref a0, .ref a1, .ref a2, .ref a3, .ref a4, .int (-2), .int ni, .int fs, .int sz0, .int sp, .int nr, .int ed, .long nn])), (g0, .inr (5, [.int 0, .int 0, .int 0, .int 0, .int 0, .int 0, .ref d0, .int 0, .ref d1, .ref d2, .ref d3, .ref d4, .ref d5]))] H := hP
          have hD : va_D A [(m0, .inr (3, [.ref e0, .ref e1, .ref g0, .ref h0, .int 0, .int 0])), (e1, .inl (y 2, 84, .inl f_12)), (h0, .inr (7, [.ref a0, .ref a1, .ref a2, .ref a3, .ref a4, .int (-2), .int ni, .int fs, .int sz0, .int sp, .int nr, .int ed, .long nn])), (g0, .inr (5, [.int 0, .int 0, .int 0, .int 0, .int 0, .int 0, .ref d0, .int 0, .ref d1, .ref d2, .ref d3, .ref d4, .ref d5]))] := hD
          obtain ⟨i_13, ei_13⟩ : ∃ z : Int32, z = i + 1 := ⟨_, rfl⟩
          refine lv_iinc (v := i_13) (lv' := [(3, .int i_13), (0, .ref m0), (1, .ref g0), (2, .ref h0)]) hx hb dX4_play_59 hl (k := 0) rfl (by rw [ei_13]; rfl) (by decide) rfl (fun ls hl => ?_)
          refine lv_goto (tgt := 22) hx hb dX4_play_62 (by decide) ?_
          have vi_13 := x_add ei_13 (by simp only [Int32.reduceToInt]; omega) (by simp only [Int32.reduceToInt]; omega)
          simp only [Int32.reduceToInt] at vi_13
          exact ih i_13 f_12 H locs ls (by (try dsimp only); (try simp only [lg_cmp_lt, lg_cmp_le, lg_cmp_gt, lg_cmp_ge] at *); (try simp only [x_lt, x_le, Int32.reduceToInt, x_ltL, x_leL, Int64.reduceToInt] at *); omega) (by (try dsimp only); (try simp only [lg_cmp_lt, lg_cmp_le, lg_cmp_gt, lg_cmp_ge] at *); (try simp only [x_lt, x_le, Int32.reduceToInt, x_ltL, x_leL, Int64.reduceToInt] at *); omega) (by (try dsimp only); (try simp only [lg_cmp_lt, lg_cmp_le, lg_cmp_gt, lg_cmp_ge] at *); (try simp only [x_lt, x_le, Int32.reduceToInt, x_ltL, x_leL, Int64.reduceToInt] at *); omega) (x_subP hP [0, 1, 2, 3] rfl) (x_subD hD [0, 1, 2, 3] rfl (by decide)) hS (lv_sub hl [0, 1, 2, 3] rfl)
        · exact absurd (by (try dsimp only); (try simp only [lg_cmp_lt, lg_cmp_le, lg_cmp_gt, lg_cmp_ge] at *); (try simp only [x_lt, x_le, Int32.reduceToInt, x_ltL, x_leL, Int64.reduceToInt] at *); omega) c_10
  exact loop 85 0 f H locs ls (by decide) (by decide) (by (try dsimp only); (try simp only [lg_cmp_lt, lg_cmp_le, lg_cmp_gt, lg_cmp_ge] at *); (try simp only [x_lt, x_le, Int32.reduceToInt, x_ltL, x_leL, Int64.reduceToInt] at *); omega) (x_subP hP [0, 1, 2, 3] rfl) (x_subD hD [0, 1, 2, 3] rfl (by decide)) hS (lv_sub hl [0, 1, 2, 3] rfl)

