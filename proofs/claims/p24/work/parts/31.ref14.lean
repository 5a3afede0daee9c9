theorem dX12_number_0 : decode cX12_number 0 = .ok (.aload_n 0, 1) := by decide +kernel
theorem dX12_number_1 : decode cX12_number 1 = .ok (.getfield 191, 3) := by decide +kernel
theorem dX12_number_4 : decode cX12_number 4 = .ok (.ifCond .eq 5, 3) := by decide +kernel
theorem dX12_number_7 : decode cX12_number 7 = .ok (.iconst 0, 1) := by decide +kernel
theorem dX12_number_8 : decode cX12_number 8 = .ok (.ireturn, 1) := by decide +kernel
theorem dX12_number_9 : decode cX12_number 9 = .ok (.aload_n 0, 1) := by decide +kernel
theorem dX12_number_10 : decode cX12_number 10 = .ok (.invokevirtual 203, 3) := by decide +kernel
theorem dX12_number_13 : decode cX12_number 13 = .ok (.invokestatic 228, 3) := by decide +kernel
theorem dX12_number_16 : decode cX12_number 16 = .ok (.ifCond .eq 14, 3) := by decide +kernel
theorem dX12_number_19 : decode cX12_number 19 = .ok (.aload_n 0, 1) := by decide +kernel
theorem dX12_number_20 : decode cX12_number 20 = .ok (.getfield 197, 3) := by decide +kernel
theorem dX12_number_23 : decode cX12_number 23 = .ok (.aload_n 0, 1) := by decide +kernel
theorem dX12_number_24 : decode cX12_number 24 = .ok (.getfield 211, 3) := by decide +kernel
theorem dX12_number_27 : decode cX12_number 27 = .ok (.if_icmp .ne 14, 3) := by decide +kernel
theorem dX12_number_30 : decode cX12_number 30 = .ok (.aload_n 0, 1) := by decide +kernel
theorem dX12_number_31 : decode cX12_number 31 = .ok (.iconst 1, 1) := by decide +kernel
theorem dX12_number_32 : decode cX12_number 32 = .ok (.aload_n 0, 1) := by decide +kernel
theorem dX12_number_33 : decode cX12_number 33 = .ok (.getfield 197, 3) := by decide +kernel
theorem dX12_number_36 : decode cX12_number 36 = .ok (.invokevirtual 221, 3) := by decide +kernel
theorem dX12_number_39 : decode cX12_number 39 = .ok (.iconst 0, 1) := by decide +kernel
theorem dX12_number_40 : decode cX12_number 40 = .ok (.ireturn, 1) := by decide +kernel
theorem dX12_number_41 : decode cX12_number 41 = .ok (.aload_n 0, 1) := by decide +kernel
theorem dX12_number_42 : decode cX12_number 42 = .ok (.getfield 197, 3) := by decide +kernel
theorem dX12_number_45 : decode cX12_number 45 = .ok (.istore_n 3, 1) := by decide +kernel
theorem dX12_number_46 : decode cX12_number 46 = .ok (.iconst 0, 1) := by decide +kernel
theorem dX12_number_47 : decode cX12_number 47 = .ok (.istore 4, 2) := by decide +kernel
theorem dX12_number_49 : decode cX12_number 49 = .ok (.aload_n 0, 1) := by decide +kernel
theorem dX12_number_50 : decode cX12_number 50 = .ok (.getfield 197, 3) := by decide +kernel
theorem dX12_number_53 : decode cX12_number 53 = .ok (.aload_n 0, 1) := by decide +kernel
theorem dX12_number_54 : decode cX12_number 54 = .ok (.getfield 200, 3) := by decide +kernel
theorem dX12_number_57 : decode cX12_number 57 = .ok (.if_icmp .ge 72, 3) := by decide +kernel
theorem dX12_number_60 : decode cX12_number 60 = .ok (.aload_n 0, 1) := by decide +kernel
theorem dX12_number_61 : decode cX12_number 61 = .ok (.getfield 7, 3) := by decide +kernel
theorem dX12_number_64 : decode cX12_number 64 = .ok (.aload_n 0, 1) := by decide +kernel
theorem dX12_number_65 : decode cX12_number 65 = .ok (.getfield 197, 3) := by decide +kernel
theorem dX12_number_68 : decode cX12_number 68 = .ok (.iaload, 1) := by decide +kernel
theorem dX12_number_69 : decode cX12_number 69 = .ok (.invokestatic 228, 3) := by decide +kernel
theorem dX12_number_72 : decode cX12_number 72 = .ok (.ifCond .eq 57, 3) := by decide +kernel
theorem dX12_number_75 : decode cX12_number 75 = .ok (.aload_n 0, 1) := by decide +kernel
theorem dX12_number_76 : decode cX12_number 76 = .ok (.getfield 197, 3) := by decide +kernel
theorem dX12_number_79 : decode cX12_number 79 = .ok (.iload_n 3, 1) := by decide +kernel
theorem dX12_number_80 : decode cX12_number 80 = .ok (.isub, 1) := by decide +kernel
theorem dX12_number_81 : decode cX12_number 81 = .ok (.iconst 4, 1) := by decide +kernel
theorem dX12_number_82 : decode cX12_number 82 = .ok (.if_icmp .ne 14, 3) := by decide +kernel
theorem dX12_number_85 : decode cX12_number 85 = .ok (.aload_n 0, 1) := by decide +kernel
theorem dX12_number_86 : decode cX12_number 86 = .ok (.iconst 1, 1) := by decide +kernel
theorem dX12_number_87 : decode cX12_number 87 = .ok (.aload_n 0, 1) := by decide +kernel
theorem dX12_number_88 : decode cX12_number 88 = .ok (.getfield 197, 3) := by decide +kernel
theorem dX12_number_91 : decode cX12_number 91 = .ok (.invokevirtual 221, 3) := by decide +kernel
theorem dX12_number_94 : decode cX12_number 94 = .ok (.iconst 0, 1) := by decide +kernel
theorem dX12_number_95 : decode cX12_number 95 = .ok (.ireturn, 1) := by decide +kernel
theorem dX12_number_96 : decode cX12_number 96 = .ok (.bipush 10, 2) := by decide +kernel
theorem dX12_number_98 : decode cX12_number 98 = .ok (.iload 4, 2) := by decide +kernel
theorem dX12_number_100 : decode cX12_number 100 = .ok (.imul, 1) := by decide +kernel
theorem dX12_number_101 : decode cX12_number 101 = .ok (.aload_n 0, 1) := by decide +kernel
theorem dX12_number_102 : decode cX12_number 102 = .ok (.getfield 7, 3) := by decide +kernel
theorem dX12_number_105 : decode cX12_number 105 = .ok (.aload_n 0, 1) := by decide +kernel
theorem dX12_number_106 : decode cX12_number 106 = .ok (.getfield 197, 3) := by decide +kernel
theorem dX12_number_109 : decode cX12_number 109 = .ok (.iaload, 1) := by decide +kernel
theorem dX12_number_110 : decode cX12_number 110 = .ok (.iadd, 1) := by decide +kernel
theorem dX12_number_111 : decode cX12_number 111 = .ok (.bipush 48, 2) := by decide +kernel
theorem dX12_number_113 : decode cX12_number 113 = .ok (.isub, 1) := by decide +kernel
theorem dX12_number_114 : decode cX12_number 114 = .ok (.istore 4, 2) := by decide +kernel
theorem dX12_number_116 : decode cX12_number 116 = .ok (.aload_n 0, 1) := by decide +kernel
theorem dX12_number_117 : decode cX12_number 117 = .ok (.dup, 1) := by decide +kernel
theorem dX12_number_118 : decode cX12_number 118 = .ok (.getfield 197, 3) := by decide +kernel
theorem dX12_number_121 : decode cX12_number 121 = .ok (.iconst 1, 1) := by decide +kernel
theorem dX12_number_122 : decode cX12_number 122 = .ok (.iadd, 1) := by decide +kernel
theorem dX12_number_123 : decode cX12_number 123 = .ok (.putfield 197, 3) := by decide +kernel
theorem dX12_number_126 : decode cX12_number 126 = .ok (.goto (-77), 3) := by decide +kernel
theorem dX12_number_129 : decode cX12_number 129 = .ok (.aload_n 0, 1) := by decide +kernel
theorem dX12_number_130 : decode cX12_number 130 = .ok (.aload_n 0, 1) := by decide +kernel
theorem dX12_number_131 : decode cX12_number 131 = .ok (.getfield 197, 3) := by decide +kernel
theorem dX12_number_134 : decode cX12_number 134 = .ok (.putfield 211, 3) := by decide +kernel
theorem dX12_number_137 : decode cX12_number 137 = .ok (.iload 4, 2) := by decide +kernel
theorem dX12_number_139 : decode cX12_number 139 = .ok (.i2l, 1) := by decide +kernel
theorem dX12_number_140 : decode cX12_number 140 = .ok (.iload_n 1, 1) := by decide +kernel
theorem dX12_number_141 : decode cX12_number 141 = .ok (.i2l, 1) := by decide +kernel
theorem dX12_number_142 : decode cX12_number 142 = .ok (.iload_n 2, 1) := by decide +kernel
theorem dX12_number_143 : decode cX12_number 143 = .ok (.i2l, 1) := by decide +kernel
theorem dX12_number_144 : decode cX12_number 144 = .ok (.invokestatic 231, 3) := by decide +kernel
theorem dX12_number_147 : decode cX12_number 147 = .ok (.ifCond .ne 9, 3) := by decide +kernel
theorem dX12_number_150 : decode cX12_number 150 = .ok (.aload_n 0, 1) := by decide +kernel
theorem dX12_number_151 : decode cX12_number 151 = .ok (.iconst 2, 1) := by decide +kernel
theorem dX12_number_152 : decode cX12_number 152 = .ok (.iload_n 3, 1) := by decide +kernel
theorem dX12_number_153 : decode cX12_number 153 = .ok (.invokevirtual 221, 3) := by decide +kernel
theorem dX12_number_156 : decode cX12_number 156 = .ok (.iload 4, 2) := by decide +kernel
theorem dX12_number_158 : decode cX12_number 158 = .ok (.ireturn, 1) := by decide +kernel
theorem dX12_isOwnHere_0 : decode cX12_isOwnHere 0 = .ok (.aload_n 0, 1) := by decide +kernel
theorem dX12_isOwnHere_1 : decode cX12_isOwnHere 1 = .ok (.aload_n 0, 1) := by decide +kernel
theorem dX12_isOwnHere_2 : decode cX12_isOwnHere 2 = .ok (.getfield 17, 3) := by decide +kernel
theorem dX12_isOwnHere_5 : decode cX12_isOwnHere 5 = .ok (.invokevirtual 214, 3) := by decide +kernel
theorem dX12_isOwnHere_8 : decode cX12_isOwnHere 8 = .ok (.ifCond .ne 69, 3) := by decide +kernel
theorem dX12_isOwnHere_11 : decode cX12_isOwnHere 11 = .ok (.aload_n 0, 1) := by decide +kernel
theorem dX12_isOwnHere_12 : decode cX12_isOwnHere 12 = .ok (.aload_n 0, 1) := by decide +kernel
theorem dX12_isOwnHere_13 : decode cX12_isOwnHere 13 = .ok (.getfield 21, 3) := by decide +kernel
theorem dX12_isOwnHere_16 : decode cX12_isOwnHere 16 = .ok (.invokevirtual 214, 3) := by decide +kernel
theorem dX12_isOwnHere_19 : decode cX12_isOwnHere 19 = .ok (.ifCond .ne 58, 3) := by decide +kernel
theorem dX12_isOwnHere_22 : decode cX12_isOwnHere 22 = .ok (.aload_n 0, 1) := by decide +kernel
theorem dX12_isOwnHere_23 : decode cX12_isOwnHere 23 = .ok (.aload_n 0, 1) := by decide +kernel
theorem dX12_isOwnHere_24 : decode cX12_isOwnHere 24 = .ok (.getfield 24, 3) := by decide +kernel
theorem dX12_isOwnHere_27 : decode cX12_isOwnHere 27 = .ok (.invokevirtual 214, 3) := by decide +kernel
theorem dX12_isOwnHere_30 : decode cX12_isOwnHere 30 = .ok (.ifCond .ne 47, 3) := by decide +kernel
theorem dX12_isOwnHere_33 : decode cX12_isOwnHere 33 = .ok (.aload_n 0, 1) := by decide +kernel
theorem dX12_isOwnHere_34 : decode cX12_isOwnHere 34 = .ok (.aload_n 0, 1) := by decide +kernel
theorem dX12_isOwnHere_35 : decode cX12_isOwnHere 35 = .ok (.getfield 27, 3) := by decide +kernel
theorem dX12_isOwnHere_38 : decode cX12_isOwnHere 38 = .ok (.invokevirtual 214, 3) := by decide +kernel
theorem dX12_isOwnHere_41 : decode cX12_isOwnHere 41 = .ok (.ifCond .ne 36, 3) := by decide +kernel
theorem dX12_isOwnHere_44 : decode cX12_isOwnHere 44 = .ok (.aload_n 0, 1) := by decide +kernel
theorem dX12_isOwnHere_45 : decode cX12_isOwnHere 45 = .ok (.aload_n 0, 1) := by decide +kernel
theorem dX12_isOwnHere_46 : decode cX12_isOwnHere 46 = .ok (.getfield 30, 3) := by decide +kernel
theorem dX12_isOwnHere_49 : decode cX12_isOwnHere 49 = .ok (.invokevirtual 214, 3) := by decide +kernel
theorem dX12_isOwnHere_52 : decode cX12_isOwnHere 52 = .ok (.ifCond .ne 25, 3) := by decide +kernel
theorem dX12_isOwnHere_55 : decode cX12_isOwnHere 55 = .ok (.aload_n 0, 1) := by decide +kernel
theorem dX12_isOwnHere_56 : decode cX12_isOwnHere 56 = .ok (.aload_n 0, 1) := by decide +kernel
theorem dX12_isOwnHere_57 : decode cX12_isOwnHere 57 = .ok (.getfield 33, 3) := by decide +kernel
theorem dX12_isOwnHere_60 : decode cX12_isOwnHere 60 = .ok (.invokevirtual 214, 3) := by decide +kernel
theorem dX12_isOwnHere_63 : decode cX12_isOwnHere 63 = .ok (.ifCond .ne 14, 3) := by decide +kernel
theorem dX12_isOwnHere_66 : decode cX12_isOwnHere 66 = .ok (.aload_n 0, 1) := by decide +kernel
theorem dX12_isOwnHere_67 : decode cX12_isOwnHere 67 = .ok (.aload_n 0, 1) := by decide +kernel
theorem dX12_isOwnHere_68 : decode cX12_isOwnHere 68 = .ok (.getfield 36, 3) := by decide +kernel
theorem dX12_isOwnHere_71 : decode cX12_isOwnHere 71 = .ok (.invokevirtual 214, 3) := by decide +kernel
theorem dX12_isOwnHere_74 : decode cX12_isOwnHere 74 = .ok (.ifCond .eq 7, 3) := by decide +kernel
theorem dX12_isOwnHere_77 : decode cX12_isOwnHere 77 = .ok (.iconst 1, 1) := by decide +kernel
theorem dX12_isOwnHere_78 : decode cX12_isOwnHere 78 = .ok (.goto 4, 3) := by decide +kernel
theorem dX12_isOwnHere_81 : decode cX12_isOwnHere 81 = .ok (.iconst 0, 1) := by decide +kernel
theorem dX12_isOwnHere_82 : decode cX12_isOwnHere 82 = .ok (.istore_n 1, 1) := by decide +kernel
theorem dX12_isOwnHere_83 : decode cX12_isOwnHere 83 = .ok (.iload_n 1, 1) := by decide +kernel
theorem dX12_isOwnHere_84 : decode cX12_isOwnHere 84 = .ok (.ifCond .ne 80, 3) := by decide +kernel
theorem dX12_isOwnHere_87 : decode cX12_isOwnHere 87 = .ok (.aload_n 0, 1) := by decide +kernel
theorem dX12_isOwnHere_88 : decode cX12_isOwnHere 88 = .ok (.aload_n 0, 1) := by decide +kernel
theorem dX12_isOwnHere_89 : decode cX12_isOwnHere 89 = .ok (.getfield 39, 3) := by decide +kernel
theorem dX12_isOwnHere_92 : decode cX12_isOwnHere 92 = .ok (.invokevirtual 214, 3) := by decide +kernel
theorem dX12_isOwnHere_95 : decode cX12_isOwnHere 95 = .ok (.ifCond .ne 69, 3) := by decide +kernel
theorem dX12_isOwnHere_98 : decode cX12_isOwnHere 98 = .ok (.aload_n 0, 1) := by decide +kernel
theorem dX12_isOwnHere_99 : decode cX12_isOwnHere 99 = .ok (.aload_n 0, 1) := by decide +kernel
theorem dX12_isOwnHere_100 : decode cX12_isOwnHere 100 = .ok (.getfield 42, 3) := by decide +kernel
theorem dX12_isOwnHere_103 : decode cX12_isOwnHere 103 = .ok (.invokevirtual 214, 3) := by decide +kernel
theorem dX12_isOwnHere_106 : decode cX12_isOwnHere 106 = .ok (.ifCond .ne 58, 3) := by decide +kernel
theorem dX12_isOwnHere_109 : decode cX12_isOwnHere 109 = .ok (.aload_n 0, 1) := by decide +kernel
theorem dX12_isOwnHere_110 : decode cX12_isOwnHere 110 = .ok (.aload_n 0, 1) := by decide +kernel
theorem dX12_isOwnHere_111 : decode cX12_isOwnHere 111 = .ok (.getfield 45, 3) := by decide +kernel
theorem dX12_isOwnHere_114 : decode cX12_isOwnHere 114 = .ok (.invokevirtual 214, 3) := by decide +kernel
theorem dX12_isOwnHere_117 : decode cX12_isOwnHere 117 = .ok (.ifCond .ne 47, 3) := by decide +kernel
theorem dX12_isOwnHere_120 : decode cX12_isOwnHere 120 = .ok (.aload_n 0, 1) := by decide +kernel
theorem dX12_isOwnHere_121 : decode cX12_isOwnHere 121 = .ok (.aload_n 0, 1) := by decide +kernel
theorem dX12_isOwnHere_122 : decode cX12_isOwnHere 122 = .ok (.getfield 48, 3) := by decide +kernel
theorem dX12_isOwnHere_125 : decode cX12_isOwnHere 125 = .ok (.invokevirtual 214, 3) := by decide +kernel
theorem dX12_isOwnHere_128 : decode cX12_isOwnHere 128 = .ok (.ifCond .ne 36, 3) := by decide +kernel
theorem dX12_isOwnHere_131 : decode cX12_isOwnHere 131 = .ok (.aload_n 0, 1) := by decide +kernel
theorem dX12_isOwnHere_132 : decode cX12_isOwnHere 132 = .ok (.aload_n 0, 1) := by decide +kernel
theorem dX12_isOwnHere_133 : decode cX12_isOwnHere 133 = .ok (.getfield 51, 3) := by decide +kernel
theorem dX12_isOwnHere_136 : decode cX12_isOwnHere 136 = .ok (.invokevirtual 214, 3) := by decide +kernel
theorem dX12_isOwnHere_139 : decode cX12_isOwnHere 139 = .ok (.ifCond .ne 25, 3) := by decide +kernel
theorem dX12_isOwnHere_142 : decode cX12_isOwnHere 142 = .ok (.aload_n 0, 1) := by decide +kernel
theorem dX12_isOwnHere_143 : decode cX12_isOwnHere 143 = .ok (.aload_n 0, 1) := by decide +kernel
theorem dX12_isOwnHere_144 : decode cX12_isOwnHere 144 = .ok (.getfield 54, 3) := by decide +kernel
theorem dX12_isOwnHere_147 : decode cX12_isOwnHere 147 = .ok (.invokevirtual 214, 3) := by decide +kernel
theorem dX12_isOwnHere_150 : decode cX12_isOwnHere 150 = .ok (.ifCond .ne 14, 3) := by decide +kernel
theorem dX12_isOwnHere_153 : decode cX12_isOwnHere 153 = .ok (.aload_n 0, 1) := by decide +kernel
theorem dX12_isOwnHere_154 : decode cX12_isOwnHere 154 = .ok (.aload_n 0, 1) := by decide +kernel
theorem dX12_isOwnHere_155 : decode cX12_isOwnHere 155 = .ok (.getfield 57, 3) := by decide +kernel
theorem dX12_isOwnHere_158 : decode cX12_isOwnHere 158 = .ok (.invokevirtual 214, 3) := by decide +kernel
theorem dX12_isOwnHere_161 : decode cX12_isOwnHere 161 = .ok (.ifCond .eq 7, 3) := by decide +kernel
theorem dX12_isOwnHere_164 : decode cX12_isOwnHere 164 = .ok (.iconst 1, 1) := by decide +kernel
theorem dX12_isOwnHere_165 : decode cX12_isOwnHere 165 = .ok (.goto 4, 3) := by decide +kernel
theorem dX12_isOwnHere_168 : decode cX12_isOwnHere 168 = .ok (.iconst 0, 1) := by decide +kernel
theorem dX12_isOwnHere_169 : decode cX12_isOwnHere 169 = .ok (.ireturn, 1) := by decide +kernel
theorem dX12_name_0 : decode cX12_name 0 = .ok (.aload_n 0, 1) := by decide +kernel
theorem dX12_name_1 : decode cX12_name 1 = .ok (.getfield 191, 3) := by decide +kernel
theorem dX12_name_4 : decode cX12_name 4 = .ok (.ifCond .eq 5, 3) := by decide +kernel
theorem dX12_name_7 : decode cX12_name 7 = .ok (.lconst 0, 1) := by decide +kernel
theorem dX12_name_8 : decode cX12_name 8 = .ok (.lreturn, 1) := by decide +kernel
theorem dX12_name_9 : decode cX12_name 9 = .ok (.aload_n 0, 1) := by decide +kernel
theorem dX12_name_10 : decode cX12_name 10 = .ok (.invokevirtual 203, 3) := by decide +kernel
theorem dX12_name_13 : decode cX12_name 13 = .ok (.invokestatic 207, 3) := by decide +kernel
theorem dX12_name_16 : decode cX12_name 16 = .ok (.ifCond .eq 21, 3) := by decide +kernel
theorem dX12_name_19 : decode cX12_name 19 = .ok (.aload_n 0, 1) := by decide +kernel
theorem dX12_name_20 : decode cX12_name 20 = .ok (.getfield 197, 3) := by decide +kernel
theorem dX12_name_23 : decode cX12_name 23 = .ok (.aload_n 0, 1) := by decide +kernel
theorem dX12_name_24 : decode cX12_name 24 = .ok (.getfield 211, 3) := by decide +kernel
theorem dX12_name_27 : decode cX12_name 27 = .ok (.if_icmp .eq 10, 3) := by decide +kernel
theorem dX12_name_30 : decode cX12_name 30 = .ok (.aload_n 0, 1) := by decide +kernel
theorem dX12_name_31 : decode cX12_name 31 = .ok (.invokevirtual 235, 3) := by decide +kernel
theorem dX12_name_34 : decode cX12_name 34 = .ok (.ifCond .eq 14, 3) := by decide +kernel
theorem dX12_name_37 : decode cX12_name 37 = .ok (.aload_n 0, 1) := by decide +kernel
theorem dX12_name_38 : decode cX12_name 38 = .ok (.iconst 1, 1) := by decide +kernel
theorem dX12_name_39 : decode cX12_name 39 = .ok (.aload_n 0, 1) := by decide +kernel
theorem dX12_name_40 : decode cX12_name 40 = .ok (.getfield 197, 3) := by decide +kernel
theorem dX12_name_43 : decode cX12_name 43 = .ok (.invokevirtual 221, 3) := by decide +kernel
theorem dX12_name_46 : decode cX12_name 46 = .ok (.lconst 0, 1) := by decide +kernel
theorem dX12_name_47 : decode cX12_name 47 = .ok (.lreturn, 1) := by decide +kernel
theorem dX12_name_48 : decode cX12_name 48 = .ok (.aload_n 0, 1) := by decide +kernel
theorem dX12_name_49 : decode cX12_name 49 = .ok (.aload_n 0, 1) := by decide +kernel
theorem dX12_name_50 : decode cX12_name 50 = .ok (.getfield 197, 3) := by decide +kernel
theorem dX12_name_53 : decode cX12_name 53 = .ok (.putfield 239, 3) := by decide +kernel
theorem dX12_name_56 : decode cX12_name 56 = .ok (.lconst 0, 1) := by decide +kernel
theorem dX12_name_57 : decode cX12_name 57 = .ok (.lstore_n 1, 1) := by decide +kernel
theorem dX12_name_58 : decode cX12_name 58 = .ok (.aload_n 0, 1) := by decide +kernel
theorem dX12_name_59 : decode cX12_name 59 = .ok (.getfield 197, 3) := by decide +kernel
theorem dX12_name_62 : decode cX12_name 62 = .ok (.aload_n 0, 1) := by decide +kernel
theorem dX12_name_63 : decode cX12_name 63 = .ok (.getfield 200, 3) := by decide +kernel
theorem dX12_name_66 : decode cX12_name 66 = .ok (.if_icmp .ge 79, 3) := by decide +kernel
theorem dX12_name_69 : decode cX12_name 69 = .ok (.aload_n 0, 1) := by decide +kernel
theorem dX12_name_70 : decode cX12_name 70 = .ok (.getfield 7, 3) := by decide +kernel
theorem dX12_name_73 : decode cX12_name 73 = .ok (.aload_n 0, 1) := by decide +kernel
theorem dX12_name_74 : decode cX12_name 74 = .ok (.getfield 197, 3) := by decide +kernel
theorem dX12_name_77 : decode cX12_name 77 = .ok (.iaload, 1) := by decide +kernel
theorem dX12_name_78 : decode cX12_name 78 = .ok (.invokestatic 207, 3) := by decide +kernel
theorem dX12_name_81 : decode cX12_name 81 = .ok (.ifCond .eq 64, 3) := by decide +kernel
theorem dX12_name_84 : decode cX12_name 84 = .ok (.aload_n 0, 1) := by decide +kernel
theorem dX12_name_85 : decode cX12_name 85 = .ok (.getfield 197, 3) := by decide +kernel
theorem dX12_name_88 : decode cX12_name 88 = .ok (.aload_n 0, 1) := by decide +kernel
theorem dX12_name_89 : decode cX12_name 89 = .ok (.getfield 239, 3) := by decide +kernel
theorem dX12_name_92 : decode cX12_name 92 = .ok (.isub, 1) := by decide +kernel
theorem dX12_name_93 : decode cX12_name 93 = .ok (.bipush 6, 2) := by decide +kernel
theorem dX12_name_95 : decode cX12_name 95 = .ok (.if_icmp .ne 14, 3) := by decide +kernel
theorem dX12_name_98 : decode cX12_name 98 = .ok (.aload_n 0, 1) := by decide +kernel
theorem dX12_name_99 : decode cX12_name 99 = .ok (.iconst 1, 1) := by decide +kernel
theorem dX12_name_100 : decode cX12_name 100 = .ok (.aload_n 0, 1) := by decide +kernel
theorem dX12_name_101 : decode cX12_name 101 = .ok (.getfield 197, 3) := by decide +kernel
theorem dX12_name_104 : decode cX12_name 104 = .ok (.invokevirtual 221, 3) := by decide +kernel
theorem dX12_name_107 : decode cX12_name 107 = .ok (.lconst 0, 1) := by decide +kernel
theorem dX12_name_108 : decode cX12_name 108 = .ok (.lreturn, 1) := by decide +kernel
theorem dX12_name_109 : decode cX12_name 109 = .ok (.ldc2_w 242, 3) := by decide +kernel
theorem dX12_name_112 : decode cX12_name 112 = .ok (.lload_n 1, 1) := by decide +kernel
theorem dX12_name_113 : decode cX12_name 113 = .ok (.lmul, 1) := by decide +kernel
theorem dX12_name_114 : decode cX12_name 114 = .ok (.aload_n 0, 1) := by decide +kernel
theorem dX12_name_115 : decode cX12_name 115 = .ok (.getfield 7, 3) := by decide +kernel
theorem dX12_name_118 : decode cX12_name 118 = .ok (.aload_n 0, 1) := by decide +kernel
theorem dX12_name_119 : decode cX12_name 119 = .ok (.getfield 197, 3) := by decide +kernel
theorem dX12_name_122 : decode cX12_name 122 = .ok (.iaload, 1) := by decide +kernel
theorem dX12_name_123 : decode cX12_name 123 = .ok (.i2l, 1) := by decide +kernel
theorem dX12_name_124 : decode cX12_name 124 = .ok (.ladd, 1) := by decide +kernel
theorem dX12_name_125 : decode cX12_name 125 = .ok (.ldc2_w 244, 3) := by decide +kernel
theorem dX12_name_128 : decode cX12_name 128 = .ok (.lsub, 1) := by decide +kernel
theorem dX12_name_129 : decode cX12_name 129 = .ok (.lconst 1, 1) := by decide +kernel
theorem dX12_name_130 : decode cX12_name 130 = .ok (.ladd, 1) := by decide +kernel
theorem dX12_name_131 : decode cX12_name 131 = .ok (.lstore_n 1, 1) := by decide +kernel
theorem dX12_name_132 : decode cX12_name 132 = .ok (.aload_n 0, 1) := by decide +kernel
theorem dX12_name_133 : decode cX12_name 133 = .ok (.dup, 1) := by decide +kernel
theorem dX12_name_134 : decode cX12_name 134 = .ok (.getfield 197, 3) := by decide +kernel
theorem dX12_name_137 : decode cX12_name 137 = .ok (.iconst 1, 1) := by decide +kernel
theorem dX12_name_138 : decode cX12_name 138 = .ok (.iadd, 1) := by decide +kernel
theorem dX12_name_139 : decode cX12_name 139 = .ok (.putfield 197, 3) := by decide +kernel
theorem dX12_name_142 : decode cX12_name 142 = .ok (.goto (-84), 3) := by decide +kernel
theorem dX12_name_145 : decode cX12_name 145 = .ok (.aload_n 0, 1) := by decide +kernel
theorem dX12_name_146 : decode cX12_name 146 = .ok (.aload_n 0, 1) := by decide +kernel
theorem dX12_name_147 : decode cX12_name 147 = .ok (.getfield 197, 3) := by decide +kernel
theorem dX12_name_150 : decode cX12_name 150 = .ok (.putfield 211, 3) := by decide +kernel
theorem dX12_name_153 : decode cX12_name 153 = .ok (.lload_n 1, 1) := by decide +kernel
theorem dX12_name_154 : decode cX12_name 154 = .ok (.lreturn, 1) := by decide +kernel
theorem dX12_code_0 : decode cX12_code 0 = .ok (.aload_n 0, 1) := by decide +kernel
theorem dX12_code_1 : decode cX12_code 1 = .ok (.getfield 69, 3) := by decide +kernel
theorem dX12_code_4 : decode cX12_code 4 = .ok (.iconst 0, 1) := by decide +kernel
theorem dX12_code_5 : decode cX12_code 5 = .ok (.aload_n 0, 1) := by decide +kernel
theorem dX12_code_6 : decode cX12_code 6 = .ok (.getfield 246, 3) := by decide +kernel
theorem dX12_code_9 : decode cX12_code 9 = .ok (.iadd, 1) := by decide +kernel
theorem dX12_code_10 : decode cX12_code 10 = .ok (.iload_n 1, 1) := by decide +kernel
theorem dX12_code_11 : decode cX12_code 11 = .ok (.iastore, 1) := by decide +kernel
theorem dX12_code_12 : decode cX12_code 12 = .ok (.aload_n 0, 1) := by decide +kernel
theorem dX12_code_13 : decode cX12_code 13 = .ok (.dup, 1) := by decide +kernel
theorem dX12_code_14 : decode cX12_code 14 = .ok (.getfield 246, 3) := by decide +kernel
theorem dX12_code_17 : decode cX12_code 17 = .ok (.iconst 1, 1) := by decide +kernel
theorem dX12_code_18 : decode cX12_code 18 = .ok (.iadd, 1) := by decide +kernel
theorem dX12_code_19 : decode cX12_code 19 = .ok (.putfield 246, 3) := by decide +kernel
theorem dX12_code_22 : decode cX12_code 22 = .ok (.return_, 1) := by decide +kernel
theorem dX12_asOf_0 : decode cX12_asOf 0 = .ok (.iconst 0, 1) := by decide +kernel
theorem dX12_asOf_1 : decode cX12_asOf 1 = .ok (.istore_n 3, 1) := by decide +kernel
theorem dX12_asOf_2 : decode cX12_asOf 2 = .ok (.iload_n 3, 1) := by decide +kernel
theorem dX12_asOf_3 : decode cX12_asOf 3 = .ok (.aload_n 0, 1) := by decide +kernel
theorem dX12_asOf_4 : decode cX12_asOf 4 = .ok (.getfield 249, 3) := by decide +kernel
theorem dX12_asOf_7 : decode cX12_asOf 7 = .ok (.if_icmp .ge 27, 3) := by decide +kernel
theorem dX12_asOf_10 : decode cX12_asOf 10 = .ok (.aload_n 0, 1) := by decide +kernel
theorem dX12_asOf_11 : decode cX12_asOf 11 = .ok (.getfield 78, 3) := by decide +kernel
theorem dX12_asOf_14 : decode cX12_asOf 14 = .ok (.iload_n 3, 1) := by decide +kernel
theorem dX12_asOf_15 : decode cX12_asOf 15 = .ok (.laload, 1) := by decide +kernel
theorem dX12_asOf_16 : decode cX12_asOf 16 = .ok (.lload_n 1, 1) := by decide +kernel
theorem dX12_asOf_17 : decode cX12_asOf 17 = .ok (.lcmp, 1) := by decide +kernel
theorem dX12_asOf_18 : decode cX12_asOf 18 = .ok (.ifCond .ne 10, 3) := by decide +kernel
theorem dX12_asOf_21 : decode cX12_asOf 21 = .ok (.aload_n 0, 1) := by decide +kernel
theorem dX12_asOf_22 : decode cX12_asOf 22 = .ok (.getfield 82, 3) := by decide +kernel
theorem dX12_asOf_25 : decode cX12_asOf 25 = .ok (.iload_n 3, 1) := by decide +kernel
theorem dX12_asOf_26 : decode cX12_asOf 26 = .ok (.iaload, 1) := by decide +kernel
theorem dX12_asOf_27 : decode cX12_asOf 27 = .ok (.ireturn, 1) := by decide +kernel
theorem dX12_asOf_28 : decode cX12_asOf 28 = .ok (.iinc 3 1, 3) := by decide +kernel
theorem dX12_asOf_31 : decode cX12_asOf 31 = .ok (.goto (-29), 3) := by decide +kernel
theorem dX12_asOf_34 : decode cX12_asOf 34 = .ok (.iconst (-1), 1) := by decide +kernel
theorem dX12_asOf_35 : decode cX12_asOf 35 = .ok (.ireturn, 1) := by decide +kernel
theorem dX12_names_0 : decode cX12_names 0 = .ok (.aload_n 0, 1) := by decide +kernel
theorem dX12_names_1 : decode cX12_names 1 = .ok (.invokevirtual 252, 3) := by decide +kernel
theorem dX12_names_4 : decode cX12_names 4 = .ok (.lstore_n 2, 1) := by decide +kernel
theorem dX12_names_5 : decode cX12_names 5 = .ok (.aload_n 0, 1) := by decide +kernel
theorem dX12_names_6 : decode cX12_names 6 = .ok (.getfield 191, 3) := by decide +kernel
theorem dX12_names_9 : decode cX12_names 9 = .ok (.ifCond .ne 21, 3) := by decide +kernel
theorem dX12_names_12 : decode cX12_names 12 = .ok (.aload_n 0, 1) := by decide +kernel
theorem dX12_names_13 : decode cX12_names 13 = .ok (.lload_n 2, 1) := by decide +kernel
theorem dX12_names_14 : decode cX12_names 14 = .ok (.invokevirtual 256, 3) := by decide +kernel
theorem dX12_names_17 : decode cX12_names 17 = .ok (.iconst (-1), 1) := by decide +kernel
theorem dX12_names_18 : decode cX12_names 18 = .ok (.if_icmp .eq 12, 3) := by decide +kernel
theorem dX12_names_21 : decode cX12_names 21 = .ok (.aload_n 0, 1) := by decide +kernel
theorem dX12_names_22 : decode cX12_names 22 = .ok (.iconst 3, 1) := by decide +kernel
theorem dX12_names_23 : decode cX12_names 23 = .ok (.aload_n 0, 1) := by decide +kernel
theorem dX12_names_24 : decode cX12_names 24 = .ok (.getfield 239, 3) := by decide +kernel
theorem dX12_names_27 : decode cX12_names 27 = .ok (.invokevirtual 221, 3) := by decide +kernel
theorem dX12_names_30 : decode cX12_names 30 = .ok (.aload_n 0, 1) := by decide +kernel
theorem dX12_names_31 : decode cX12_names 31 = .ok (.getfield 78, 3) := by decide +kernel
theorem dX12_names_34 : decode cX12_names 34 = .ok (.aload_n 0, 1) := by decide +kernel
theorem dX12_names_35 : decode cX12_names 35 = .ok (.getfield 249, 3) := by decide +kernel
theorem dX12_names_38 : decode cX12_names 38 = .ok (.lload_n 2, 1) := by decide +kernel
theorem dX12_names_39 : decode cX12_names 39 = .ok (.lastore, 1) := by decide +kernel
theorem dX12_names_40 : decode cX12_names 40 = .ok (.aload_n 0, 1) := by decide +kernel
theorem dX12_names_41 : decode cX12_names 41 = .ok (.getfield 82, 3) := by decide +kernel
theorem dX12_names_44 : decode cX12_names 44 = .ok (.aload_n 0, 1) := by decide +kernel
theorem dX12_names_45 : decode cX12_names 45 = .ok (.getfield 249, 3) := by decide +kernel
theorem dX12_names_48 : decode cX12_names 48 = .ok (.iload_n 1, 1) := by decide +kernel
theorem dX12_names_49 : decode cX12_names 49 = .ok (.iastore, 1) := by decide +kernel
theorem dX12_names_50 : decode cX12_names 50 = .ok (.aload_n 0, 1) := by decide +kernel
theorem dX12_names_51 : decode cX12_names 51 = .ok (.dup, 1) := by decide +kernel
theorem dX12_names_52 : decode cX12_names 52 = .ok (.getfield 249, 3) := by decide +kernel
theorem dX12_names_55 : decode cX12_names 55 = .ok (.iconst 1, 1) := by decide +kernel
theorem dX12_names_56 : decode cX12_names 56 = .ok (.iadd, 1) := by decide +kernel
theorem dX12_names_57 : decode cX12_names 57 = .ok (.putfield 249, 3) := by decide +kernel
theorem dX12_names_60 : decode cX12_names 60 = .ok (.return_, 1) := by decide +kernel
theorem dX12_nameTold_0 : decode cX12_nameTold 0 = .ok (.aload_n 0, 1) := by decide +kernel
theorem dX12_nameTold_1 : decode cX12_nameTold 1 = .ok (.invokevirtual 252, 3) := by decide +kernel
theorem dX12_nameTold_4 : decode cX12_nameTold 4 = .ok (.lstore_n 1, 1) := by decide +kernel
theorem dX12_nameTold_5 : decode cX12_nameTold 5 = .ok (.aload_n 0, 1) := by decide +kernel
theorem dX12_nameTold_6 : decode cX12_nameTold 6 = .ok (.getfield 191, 3) := by decide +kernel
theorem dX12_nameTold_9 : decode cX12_nameTold 9 = .ok (.ifCond .eq 5, 3) := by decide +kernel
theorem dX12_nameTold_12 : decode cX12_nameTold 12 = .ok (.iconst 0, 1) := by decide +kernel
theorem dX12_nameTold_13 : decode cX12_nameTold 13 = .ok (.ireturn, 1) := by decide +kernel
theorem dX12_nameTold_14 : decode cX12_nameTold 14 = .ok (.aload_n 0, 1) := by decide +kernel
theorem dX12_nameTold_15 : decode cX12_nameTold 15 = .ok (.lload_n 1, 1) := by decide +kernel
theorem dX12_nameTold_16 : decode cX12_nameTold 16 = .ok (.invokevirtual 256, 3) := by decide +kernel
theorem dX12_nameTold_19 : decode cX12_nameTold 19 = .ok (.istore_n 3, 1) := by decide +kernel
theorem dX12_nameTold_20 : decode cX12_nameTold 20 = .ok (.iload_n 3, 1) := by decide +kernel
theorem dX12_nameTold_21 : decode cX12_nameTold 21 = .ok (.iconst (-1), 1) := by decide +kernel
theorem dX12_nameTold_22 : decode cX12_nameTold 22 = .ok (.if_icmp .ne 12, 3) := by decide +kernel
theorem dX12_nameTold_25 : decode cX12_nameTold 25 = .ok (.aload_n 0, 1) := by decide +kernel
theorem dX12_nameTold_26 : decode cX12_nameTold 26 = .ok (.iconst 3, 1) := by decide +kernel
theorem dX12_nameTold_27 : decode cX12_nameTold 27 = .ok (.aload_n 0, 1) := by decide +kernel
theorem dX12_nameTold_28 : decode cX12_nameTold 28 = .ok (.getfield 239, 3) := by decide +kernel
theorem dX12_nameTold_31 : decode cX12_nameTold 31 = .ok (.invokevirtual 221, 3) := by decide +kernel
theorem dX12_nameTold_34 : decode cX12_nameTold 34 = .ok (.iload_n 3, 1) := by decide +kernel
theorem dX12_nameTold_35 : decode cX12_nameTold 35 = .ok (.iconst (-1), 1) := by decide +kernel
theorem dX12_nameTold_36 : decode cX12_nameTold 36 = .ok (.if_icmp .ne 7, 3) := by decide +kernel
theorem dX12_nameTold_39 : decode cX12_nameTold 39 = .ok (.iconst 0, 1) := by decide +kernel
theorem dX12_nameTold_40 : decode cX12_nameTold 40 = .ok (.goto 4, 3) := by decide +kernel
theorem dX12_nameTold_43 : decode cX12_nameTold 43 = .ok (.iload_n 3, 1) := by decide +kernel
theorem dX12_nameTold_44 : decode cX12_nameTold 44 = .ok (.ireturn, 1) := by decide +kernel
theorem dX12_opensOne_0 : decode cX12_opensOne 0 = .ok (.aload_n 0, 1) := by decide +kernel
theorem dX12_opensOne_1 : decode cX12_opensOne 1 = .ok (.getfield 260, 3) := by decide +kernel
theorem dX12_opensOne_4 : decode cX12_opensOne 4 = .ok (.bipush 8, 2) := by decide +kernel
theorem dX12_opensOne_6 : decode cX12_opensOne 6 = .ok (.if_icmp .ne 10, 3) := by decide +kernel
theorem dX12_opensOne_9 : decode cX12_opensOne 9 = .ok (.aload_n 0, 1) := by decide +kernel
theorem dX12_opensOne_10 : decode cX12_opensOne 10 = .ok (.iconst 4, 1) := by decide +kernel
theorem dX12_opensOne_11 : decode cX12_opensOne 11 = .ok (.iload_n 2, 1) := by decide +kernel
theorem dX12_opensOne_12 : decode cX12_opensOne 12 = .ok (.invokevirtual 221, 3) := by decide +kernel
theorem dX12_opensOne_15 : decode cX12_opensOne 15 = .ok (.return_, 1) := by decide +kernel
theorem dX12_opensOne_16 : decode cX12_opensOne 16 = .ok (.aload_n 0, 1) := by decide +kernel
theorem dX12_opensOne_17 : decode cX12_opensOne 17 = .ok (.dup, 1) := by decide +kernel
theorem dX12_opensOne_18 : decode cX12_opensOne 18 = .ok (.getfield 260, 3) := by decide +kernel
theorem dX12_opensOne_21 : decode cX12_opensOne 21 = .ok (.iconst 1, 1) := by decide +kernel
theorem dX12_opensOne_22 : decode cX12_opensOne 22 = .ok (.iadd, 1) := by decide +kernel
theorem dX12_opensOne_23 : decode cX12_opensOne 23 = .ok (.putfield 260, 3) := by decide +kernel
theorem dX12_opensOne_26 : decode cX12_opensOne 26 = .ok (.aload_n 0, 1) := by decide +kernel
theorem dX12_opensOne_27 : decode cX12_opensOne 27 = .ok (.getfield 75, 3) := by decide +kernel
theorem dX12_opensOne_30 : decode cX12_opensOne 30 = .ok (.aload_n 0, 1) := by decide +kernel
theorem dX12_opensOne_31 : decode cX12_opensOne 31 = .ok (.getfield 263, 3) := by decide +kernel
theorem dX12_opensOne_34 : decode cX12_opensOne 34 = .ok (.iload_n 1, 1) := by decide +kernel
theorem dX12_opensOne_35 : decode cX12_opensOne 35 = .ok (.iastore, 1) := by decide +kernel
theorem dX12_opensOne_36 : decode cX12_opensOne 36 = .ok (.aload_n 0, 1) := by decide +kernel
theorem dX12_opensOne_37 : decode cX12_opensOne 37 = .ok (.dup, 1) := by decide +kernel
theorem dX12_opensOne_38 : decode cX12_opensOne 38 = .ok (.getfield 263, 3) := by decide +kernel
theorem dX12_opensOne_41 : decode cX12_opensOne 41 = .ok (.iconst 1, 1) := by decide +kernel
theorem dX12_opensOne_42 : decode cX12_opensOne 42 = .ok (.iadd, 1) := by decide +kernel
theorem dX12_opensOne_43 : decode cX12_opensOne 43 = .ok (.putfield 263, 3) := by decide +kernel
theorem dX12_opensOne_46 : decode cX12_opensOne 46 = .ok (.return_, 1) := by decide +kernel
theorem dX12_isOn_0 : decode cX12_isOn 0 = .ok (.aload_n 0, 1) := by decide +kernel
theorem dX12_isOn_1 : decode cX12_isOn 1 = .ok (.getfield 263, 3) := by decide +kernel
theorem dX12_isOn_4 : decode cX12_isOn 4 = .ok (.ifCond .le 22, 3) := by decide +kernel
theorem dX12_isOn_7 : decode cX12_isOn 7 = .ok (.aload_n 0, 1) := by decide +kernel
theorem dX12_isOn_8 : decode cX12_isOn 8 = .ok (.getfield 75, 3) := by decide +kernel
theorem dX12_isOn_11 : decode cX12_isOn 11 = .ok (.aload_n 0, 1) := by decide +kernel
theorem dX12_isOn_12 : decode cX12_isOn 12 = .ok (.getfield 263, 3) := by decide +kernel
theorem dX12_isOn_15 : decode cX12_isOn 15 = .ok (.iconst 1, 1) := by decide +kernel
theorem dX12_isOn_16 : decode cX12_isOn 16 = .ok (.isub, 1) := by decide +kernel
theorem dX12_isOn_17 : decode cX12_isOn 17 = .ok (.iaload, 1) := by decide +kernel
theorem dX12_isOn_18 : decode cX12_isOn 18 = .ok (.iload_n 1, 1) := by decide +kernel
theorem dX12_isOn_19 : decode cX12_isOn 19 = .ok (.if_icmp .ne 7, 3) := by decide +kernel
theorem dX12_isOn_22 : decode cX12_isOn 22 = .ok (.iconst 1, 1) := by decide +kernel
theorem dX12_isOn_23 : decode cX12_isOn 23 = .ok (.goto 4, 3) := by decide +kernel
theorem dX12_isOn_26 : decode cX12_isOn 26 = .ok (.iconst 0, 1) := by decide +kernel
theorem dX12_isOn_27 : decode cX12_isOn 27 = .ok (.ireturn, 1) := by decide +kernel
theorem dX12_drops_0 : decode cX12_drops 0 = .ok (.aload_n 0, 1) := by decide +kernel
theorem dX12_drops_1 : decode cX12_drops 1 = .ok (.dup, 1) := by decide +kernel
theorem dX12_drops_2 : decode cX12_drops 2 = .ok (.getfield 263, 3) := by decide +kernel
theorem dX12_drops_5 : decode cX12_drops 5 = .ok (.iconst 1, 1) := by decide +kernel
theorem dX12_drops_6 : decode cX12_drops 6 = .ok (.isub, 1) := by decide +kernel
theorem dX12_drops_7 : decode cX12_drops 7 = .ok (.putfield 263, 3) := by decide +kernel
theorem dX12_drops_10 : decode cX12_drops 10 = .ok (.aload_n 0, 1) := by decide +kernel
theorem dX12_drops_11 : decode cX12_drops 11 = .ok (.aload_n 0, 1) := by decide +kernel
theorem dX12_drops_12 : decode cX12_drops 12 = .ok (.getfield 75, 3) := by decide +kernel
theorem dX12_drops_15 : decode cX12_drops 15 = .ok (.aload_n 0, 1) := by decide +kernel
theorem dX12_drops_16 : decode cX12_drops 16 = .ok (.getfield 263, 3) := by decide +kernel
theorem dX12_drops_19 : decode cX12_drops 19 = .ok (.iaload, 1) := by decide +kernel
theorem dX12_drops_20 : decode cX12_drops 20 = .ok (.invokevirtual 266, 3) := by decide +kernel
theorem dX12_drops_23 : decode cX12_drops 23 = .ok (.return_, 1) := by decide +kernel
theorem dX12_isMark_0 : decode cX12_isMark 0 = .ok (.iload_n 1, 1) := by decide +kernel
theorem dX12_isMark_1 : decode cX12_isMark 1 = .ok (.bipush 20, 2) := by decide +kernel
theorem dX12_isMark_3 : decode cX12_isMark 3 = .ok (.if_icmp .lt 13, 3) := by decide +kernel
theorem dX12_isMark_6 : decode cX12_isMark 6 = .ok (.iload_n 1, 1) := by decide +kernel
theorem dX12_isMark_7 : decode cX12_isMark 7 = .ok (.bipush 30, 2) := by decide +kernel
theorem dX12_isMark_9 : decode cX12_isMark 9 = .ok (.if_icmp .ge 7, 3) := by decide +kernel
theorem dX12_isMark_12 : decode cX12_isMark 12 = .ok (.iconst 1, 1) := by decide +kernel
theorem dX12_isMark_13 : decode cX12_isMark 13 = .ok (.goto 4, 3) := by decide +kernel
theorem dX12_isMark_16 : decode cX12_isMark 16 = .ok (.iconst 0, 1) := by decide +kernel
theorem dX12_isMark_17 : decode cX12_isMark 17 = .ok (.ireturn, 1) := by decide +kernel
def v_q_number : List Cond := .code yX12_number cX12_number 5 (some .int) :: ([.fieldLink RX12 191 "SlopeRunnerModel" "bad" "I", .fieldLink RX12 197 "SlopeRunnerModel" "at" "I", .fieldLink RX12 211 "SlopeRunnerModel" "ended" "I", .fieldLink RX12 200 "SlopeRunnerModel" "end" "I", .fieldLink RX12 7 "SlopeRunnerModel" "tape" "[I"] ++ ((wsV RX12 203 RX12 yX12_look v_q_look2) ++ ((wsS RX12 228 yX12_isDigit v_q_isDigit2) ++ ((wsV RX12 221 RX12 yX12_fail v_q_fail) ++ ((wsS RX12 231 yX12_isIn v_q_isIn) ++ wsX120)))))
theorem g_q_number_0 : GoodIn v_q_number (wsV RX12 203 RX12 yX12_look v_q_look2) := goodIn_sub (fun w h => List.mem_cons_of_mem _ (List.mem_append_right _ (List.mem_append_left _ h))) (by decide +kernel)
theorem g_q_number_1 : GoodIn v_q_number (wsS RX12 228 yX12_isDigit v_q_isDigit2) := goodIn_sub (fun w h => List.mem_cons_of_mem _ (List.mem_append_right _ (List.mem_append_right _ (List.mem_append_left _ h)))) (by decide +kernel)
theorem g_q_number_2 : GoodIn v_q_number (wsV RX12 221 RX12 yX12_fail v_q_fail) := goodIn_sub (fun w h => List.mem_cons_of_mem _ (List.mem_append_right _ (List.mem_append_right _ (List.mem_append_right _ (List.mem_append_left _ h))))) (by decide +kernel)
theorem g_q_number_3 : GoodIn v_q_number (wsS RX12 231 yX12_isIn v_q_isIn) := goodIn_sub (fun w h => List.mem_cons_of_mem _ (List.mem_append_right _ (List.mem_append_right _ (List.mem_append_right _ (List.mem_append_right _ (List.mem_append_left _ h)))))) (by decide +kernel)
set_option maxHeartbeats 4000000 in
set_option maxRecDepth 100000 in
theorem q_number (l : Launch) (D : va_G) (y : Nat → ClassId) (sz : Nat) (ad : Nat → Nat) (zw : Nat → Nat → Int32) (σ : OS) (lo hi : Int32) (ha0 : 0 ≤ (σ.1 2).toInt) (ha1 : (σ.1 2).toInt ≤ (σ.1 3).toInt) (ha2 : (σ.1 3).toInt ≤ 700) : Met l yX12_number v_q_number ({ frames := 1, cells := 0, slots := 0, locals := 25 } : Room) (va_Pc [.ref (ad 1), .int lo, .int hi] (xPre D (xT y) (mwd y ad zw σ) sz)) (va_Qi (fun (r : Int32) (u : Int32 × Int32 × Int32 × Int32) => (σ.1 2).toInt ≤ u.1.toInt ∧ u.1.toInt ≤ (σ.1 3).toInt ∧ 0 ≤ r.toInt ∧ r.toInt ≤ 9999 ∧ (u.2.2.1.toInt = 0 → (σ.1 5).toInt = 0 ∧ (σ.1 2).toInt + 1 ≤ u.1.toInt ∧ lo.toInt ≤ r.toInt ∧ r.toInt ≤ hi.toInt)) (fun (u : Int32 × Int32 × Int32 × Int32) => xB D (xT y) (va_A (mwd y ad zw σ) sz) (mwd y ad zw (sI (sI (sI (sI σ 2 u.1) 4 u.2.1) 5 u.2.2.1) 6 u.2.2.2))) (va_A (mwd y ad zw σ) sz)) 0 0 (va_A (mwd y ad zw σ) sz) := by
  refine x_meti (cc := cX12_number) (maxL := 5) (by decide) rfl (Nat.le_of_ble_eq_true rfl) ?_
  intro p e s m below meth c A H locs Q hx hb hml hown hts hr hlocks hmn hA hP hK hD hS ls hl hQ
  have hl : lv_has ls 5 [(0, .ref (ad 1)), (1, .int lo), (2, .int hi)] := hl
  have fl191 := hts (.fieldLink RX12 191 "SlopeRunnerModel" "bad" "I") (List.mem_of_getElem? (i := 1) rfl)
  have inX12 : ∀ w ∈ wsX120, w ∈ v_q_number := (fun w h => List.mem_cons_of_mem _ (List.mem_append_right _ (List.mem_append_right _ (List.mem_append_right _ (List.mem_append_right _ (List.mem_append_right _ h))))))
  have kk_0 : (0 : Int32).toInt = 0 := rfl
  have fl197 := hts (.fieldLink RX12 197 "SlopeRunnerModel" "at" "I") (List.mem_of_getElem? (i := 2) rfl)
  have kk_1 : (1 : Int32).toInt = 1 := rfl
  have fl211 := hts (.fieldLink RX12 211 "SlopeRunnerModel" "ended" "I") (List.mem_of_getElem? (i := 3) rfl)
  have fl200 := hts (.fieldLink RX12 200 "SlopeRunnerModel" "end" "I") (List.mem_of_getElem? (i := 4) rfl)
  have kk_2 : (2 : Int32).toInt = 2 := rfl
  have fl7 := hts (.fieldLink RX12 7 "SlopeRunnerModel" "tape" "[I") (List.mem_of_getElem? (i := 5) rfl)
  have kk_4 : (4 : Int32).toInt = 4 := rfl
  have kk_10 : (10 : Int32).toInt = 10 := rfl
  have kk_48 : (48 : Int32).toInt = 48 := rfl
  refine lv_aload_n hx hb dX12_number_0 rfl (lv_at hl 0 rfl) ?_
  refine va_get (D := D) (ci := 11) (v := .int (σ.1 5)) (C := RX12) (T := TX12) (N := 85) hx hb hts inX12 hown hK hP 0 mwd_o0 rfl 5 (by decide) fl191 (fun _ h9 => h9) rfl dX12_number_1 ?_
  refine lv_if_eq (tgt := 9) hx hb dX12_number_4 (by decide) (fun c_1 => ?_) (fun c_1 => ?_)
  · have kc_1 : (σ.1 5).toInt = 0 := by have h9 := c_1; simp only [ge_iff_le, gt_iff_lt, x_lt, x_le, x_eq, ne_eq, Int32.not_lt, Int32.not_le] at h9; simp only [Int32.reduceToInt] at h9; omega
    refine lv_aload_n hx hb dX12_number_9 rfl (lv_at hl 0 rfl) ?_
    refine x_calliW (va_runV (As := []) (rest := []) ⟨hx, hb, hml, hown, hts⟩ (q_look2 l D y H.size ad zw σ (show 0 ≤ ((σ.1 2)).toInt from by first | omega | decide) (show ((σ.1 2)).toInt ≤ ((σ.1 3)).toInt from by first | omega | decide) (show ((σ.1 3)).toInt ≤ 700 from by first | omega | decide)) (cwV 0 hts g_q_number_0 rfl rfl rfl (by decide +kernel) ⟨Nat.le_of_ble_eq_true rfl, Nat.le_of_ble_eq_true rfl⟩) (x_preV (q := (RX12, TX12, 85)) hK hP hD (ci := 11) (q0 := 0) rfl mwd_o0) rfl rfl hl.1 rfl (lv_room (Nat.le_of_ble_eq_true rfl)) dX12_number_10 ⟨Nat.le_of_ble_eq_true rfl, Nat.le_of_ble_eq_true rfl⟩) hP hD hS hA (fun r_2 u H locs hw hP hD hS => ?_)
    obtain ⟨n_3, rfl⟩ : ∃ z9, z9 = u := ⟨_, rfl⟩
    try dsimp only at hw
    have hP : va_P D vwCl (mwd y ad zw (sI σ 2 n_3)) H := hP
    have hD : va_D A (mwd y ad zw (sI σ 2 n_3)) := hD
    have hw : ((σ.1 2)).toInt ≤ n_3.toInt ∧ n_3.toInt ≤ ((σ.1 3)).toInt ∧ (r_2.toInt = -1 ∨ (n_3.toInt < ((σ.1 3)).toInt ∧ r_2 = ((σ.2.2.1 0)) (Int32.toNatClampNeg n_3))) := hw
    have hlk := hw.2.2
    refine x_calliN (va_runS (As := [.int r_2]) (rest := []) ⟨hx, hb, hml, hown, hts⟩ (q_isDigit2 l D y H.size r_2) (cwS 1 hts g_q_number_1 rfl rfl rfl (by decide +kernel) ⟨Nat.le_of_ble_eq_true rfl, Nat.le_of_ble_eq_true rfl⟩) (x_preS hK (x_nilP D H) (x_nilD A)) rfl rfl hl.1 rfl (lv_room (Nat.le_of_ble_eq_true rfl)) dX12_number_13 ⟨Nat.le_of_ble_eq_true rfl, Nat.le_of_ble_eq_true rfl⟩) hP hD hS hA (fun r_4 u H locs hw hP hD hS => ?_)
    try dsimp only at hw
    refine lv_if_eq (tgt := 30) hx hb dX12_number_16 (by decide) (fun c_5 => ?_) (fun c_5 => ?_)
    · have kc_5 : r_4.toInt = 0 := by have h9 := c_5; simp only [ge_iff_le, gt_iff_lt, x_lt, x_le, x_eq, ne_eq, Int32.not_lt, Int32.not_le] at h9; simp only [Int32.reduceToInt] at h9; omega
      refine lv_aload_n hx hb dX12_number_30 rfl (lv_at hl 0 rfl) ?_
      refine lv_iconst (v := 1) hx hb dX12_number_31 (by decide) ?_
      refine lv_aload_n hx hb dX12_number_32 rfl (lv_at hl 0 rfl) ?_
      refine va_get (D := D) (ci := 11) (v := .int n_3) (C := RX12) (T := TX12) (N := 85) hx hb hts inX12 hown hK hP 0 mwd_o0 rfl 2 (by decide) fl197 (fun _ h9 => h9) rfl dX12_number_33 ?_
      refine x_callvW (va_runV (As := [.int 1, .int n_3]) (rest := []) ⟨hx, hb, hml, hown, hts⟩ (q_fail l D y H.size ad zw (sI σ 2 n_3) 1 n_3) (cwV 2 hts g_q_number_2 rfl rfl rfl (by decide +kernel) ⟨Nat.le_of_ble_eq_true rfl, Nat.le_of_ble_eq_true rfl⟩) (x_preV (q := (RX12, TX12, 85)) hK hP hD (ci := 11) (q0 := 0) rfl mwd_o0) rfl rfl hl.1 rfl (lv_room (Nat.le_of_ble_eq_true rfl)) dX12_number_36 ⟨Nat.le_of_ble_eq_true rfl, Nat.le_of_ble_eq_true rfl⟩) hP hD hS hA (fun u H locs hw hP hD hS => ?_)
      obtain ⟨b_6, b_7⟩ := u
      try dsimp only at hw
      have hP : va_P D vwCl (mwd y ad zw (sI (sI (sI σ 2 n_3) 5 b_6) 6 b_7)) H := hP
      have hD : va_D A (mwd y ad zw (sI (sI (sI σ 2 n_3) 5 b_6) 6 b_7)) := hD
      have hw : b_6 = if (σ.1 5) = 0 then (1 : Int32) else (σ.1 5) := hw
      have hbd : b_6.toInt ≠ 0 := by rw [hw]; split <;> first | decide | (rename_i h9; intro h8; exact h9 (Int32.toInt_inj.mp (by rw [h8]; rfl)))
      refine lv_iconst (v := 0) hx hb dX12_number_39 (by decide) ?_
      have hP : va_P D vwCl (mwd y ad zw (sI (sI (sI (sI σ 2 n_3) 4 (σ.1 4)) 5 b_6) 6 b_7)) H := hP
      have hD : va_D A (mwd y ad zw (sI (sI (sI (sI σ 2 n_3) 4 (σ.1 4)) 5 b_6) 6 b_7)) := hD
      exact x_iretW (v := 0) (u := (n_3, (σ.1 4), b_6, b_7)) hx hb hr hQ (by (try dsimp only); exact ⟨by omega, by omega, by omega, by omega, by omega⟩) hP hD hK hS dX12_number_40 hlocks
    · have kc_5 : r_4.toInt ≠ 0 := by have h9 := c_5; simp only [ge_iff_le, gt_iff_lt, x_lt, x_le, x_eq, ne_eq, Int32.not_lt, Int32.not_le] at h9; simp only [Int32.reduceToInt] at h9; omega
      refine lv_aload_n hx hb dX12_number_19 rfl (lv_at hl 0 rfl) ?_
      refine va_get (D := D) (ci := 11) (v := .int n_3) (C := RX12) (T := TX12) (N := 85) hx hb hts inX12 hown hK hP 0 mwd_o0 rfl 2 (by decide) fl197 (fun _ h9 => h9) rfl dX12_number_20 ?_
      refine lv_aload_n hx hb dX12_number_23 rfl (lv_at hl 0 rfl) ?_
      refine va_get (D := D) (ci := 11) (v := .int (σ.1 4)) (C := RX12) (T := TX12) (N := 85) hx hb hts inX12 hown hK hP 0 mwd_o0 rfl 4 (by decide) fl211 (fun _ h9 => h9) rfl dX12_number_24 ?_
      refine lv_icmp_ne (tgt := 41) hx hb dX12_number_27 (by decide) (fun c_8 => ?_) (fun c_8 => ?_)
      · have kc_8 : n_3.toInt ≠ (σ.1 4).toInt := by have h9 := c_8; simp only [ge_iff_le, gt_iff_lt, x_lt, x_le, x_eq, ne_eq, Int32.not_lt, Int32.not_le] at h9; omega
        refine lv_aload_n hx hb dX12_number_41 rfl (lv_at hl 0 rfl) ?_
        refine va_get (D := D) (ci := 11) (v := .int n_3) (C := RX12) (T := TX12) (N := 85) hx hb hts inX12 hown hK hP 0 mwd_o0 rfl 2 (by decide) fl197 (fun _ h9 => h9) rfl dX12_number_42 ?_
        refine lv_istore_n (lv' := [(3, .int n_3), (0, .ref (ad 1)), (1, .int lo), (2, .int hi)]) hx hb dX12_number_45 rfl hl (by decide) rfl (fun ls hl => ?_)
        refine lv_iconst (v := 0) hx hb dX12_number_46 (by decide) ?_
        refine lv_istore (lv' := [(4, .int 0), (3, .int n_3), (0, .ref (ad 1)), (1, .int lo), (2, .int hi)]) hx hb dX12_number_47 hl (by decide) rfl (fun ls hl => ?_)
        have hdg : 48 ≤ ((σ.2.2.1 0) (Int32.toNatClampNeg n_3)).toInt ∧ ((σ.2.2.1 0) (Int32.toNatClampNeg n_3)).toInt ≤ 57 ∧ n_3.toInt < (σ.1 3).toInt := by rcases hlk with h9 | ⟨h8, h9⟩ <;> first | (exfalso; omega) | (rw [← h9]; omega)
        have loop : ∀ (fu : Nat) (a : Int32) (v : Int32) (H : Heap) (locs : List Loc) (ls : Array Slot), (n_3.toInt ≤ a.toInt) → (a.toInt ≤ (σ.1 3).toInt) → (0 ≤ v.toInt) → (((a.toInt - n_3.toInt) = 0 ∧ v.toInt = 0) ∨ ((a.toInt - n_3.toInt) = 1 ∧ v.toInt ≤ 9) ∨ ((a.toInt - n_3.toInt) = 2 ∧ v.toInt ≤ 99) ∨ ((a.toInt - n_3.toInt) = 3 ∧ v.toInt ≤ 999) ∨ ((a.toInt - n_3.toInt) = 4 ∧ v.toInt ≤ 9999)) → ((σ.1 3).toInt - a.toInt < (fu : Int)) → va_P D vwCl (mwd y ad zw (sI σ 2 a)) H → va_D A (mwd y ad zw (sI σ 2 a)) → va_S A s.heap H locs → lv_has ls 5 [(4, .int v), (3, .int n_3), (2, .int hi), (1, .int lo), (0, .ref (ad 1))] → W p l e ({ frames := 1, cells := 0, slots := 0, locals := 25 } : Room) s m ([.ref (ad 1), .int lo, .int hi] : List Value).toArray below meth c H locs 0 0 Q (F0 m 49 ls []) := by
          intro fu
          induction fu with
          | zero =>
            intro a v H locs ls hl0 hl1 hv0 hv1 hm
            exact absurd hm (by omega)
          | succ fu ih_loop =>
            intro a v H locs ls hl0 hl1 hv0 hv1 hm hP hD hS hl
            refine lv_aload_n hx hb dX12_number_49 rfl (lv_at hl 4 rfl) ?_
            refine va_get (D := D) (ci := 11) (v := .int a) (C := RX12) (T := TX12) (N := 85) hx hb hts inX12 hown hK hP 0 mwd_o0 rfl 2 (by decide) fl197 (fun _ h9 => h9) rfl dX12_number_50 ?_
            refine lv_aload_n hx hb dX12_number_53 rfl (lv_at hl 4 rfl) ?_
            refine va_get (D := D) (ci := 11) (v := .int (σ.1 3)) (C := RX12) (T := TX12) (N := 85) hx hb hts inX12 hown hK hP 0 mwd_o0 rfl 3 (by decide) fl200 (fun _ h9 => h9) rfl dX12_number_54 ?_
            refine lv_icmp_ge (tgt := 129) hx hb dX12_number_57 (by decide) (fun c_9 => ?_) (fun c_9 => ?_)
            · have kc_9 : a.toInt ≥ (σ.1 3).toInt := by have h9 := c_9; simp only [ge_iff_le, gt_iff_lt, x_lt, x_le, x_eq, ne_eq, Int32.not_lt, Int32.not_le] at h9; omega
              refine lv_aload_n hx hb dX12_number_129 rfl (lv_at hl 4 rfl) ?_
              refine lv_aload_n hx hb dX12_number_130 rfl (lv_at hl 4 rfl) ?_
              refine va_get (D := D) (ci := 11) (v := .int a) (C := RX12) (T := TX12) (N := 85) hx hb hts inX12 hown hK hP 0 mwd_o0 rfl 2 (by decide) fl197 (fun _ h9 => h9) rfl dX12_number_131 ?_
              refine va_put (D := D) (ci := 11) (v := .int a) (ty := .int) (C := RX12) (T := TX12) (N := 85) hx hb hts inX12 tyX12 tyX12_ok nmX12 hown hK hP hD hS 0 mwd_o0 rfl 4 (by decide) fl211 (fun _ h9 => h9) rfl (by decide +kernel) rfl rfl (Nat.le_of_ble_eq_true rfl) dX12_number_134 (fun H locs hP hD hS => ?_)
              have hP : va_P D vwCl (mwd y ad zw (sI (sI σ 2 a) 4 a)) H := x_trP hP mwd_p0_4
              have hD : va_D A (mwd y ad zw (sI (sI σ 2 a) 4 a)) := x_trD hD mwd_p0_4
              refine lv_iload hx hb dX12_number_137 (lv_at hl 0 rfl) ?_
              refine lv_i2l hx hb dX12_number_139 rfl ?_
              refine lv_topl (fun j_10 ej_10 => ?_)
              have vj_10 : j_10.toInt = v.toInt := by rw [ej_10]; exact Int32.toInt_toInt64 _
              refine lv_iload_n hx hb dX12_number_140 rfl (lv_at hl 3 rfl) ?_
              refine lv_i2l hx hb dX12_number_141 rfl ?_
              refine lv_topl (fun j_11 ej_11 => ?_)
              have vj_11 : j_11.toInt = lo.toInt := by rw [ej_11]; exact Int32.toInt_toInt64 _
              refine lv_iload_n hx hb dX12_number_142 rfl (lv_at hl 2 rfl) ?_
              refine lv_i2l hx hb dX12_number_143 rfl ?_
              refine lv_topl (fun j_12 ej_12 => ?_)
              have vj_12 : j_12.toInt = hi.toInt := by rw [ej_12]; exact Int32.toInt_toInt64 _
              refine x_calliN (va_runS (As := [.long j_10, .long j_11, .long j_12]) (rest := []) ⟨hx, hb, hml, hown, hts⟩ (q_isIn l D y H.size j_10 j_11 j_12) (cwS 3 hts g_q_number_3 rfl rfl rfl (by decide +kernel) ⟨Nat.le_of_ble_eq_true rfl, Nat.le_of_ble_eq_true rfl⟩) (x_preS hK (x_nilP D H) (x_nilD A)) rfl rfl hl.1 rfl (lv_room (Nat.le_of_ble_eq_true rfl)) dX12_number_144 ⟨Nat.le_of_ble_eq_true rfl, Nat.le_of_ble_eq_true rfl⟩) hP hD hS hA (fun r_13 u H locs hw hP hD hS => ?_)
              try dsimp only at hw
              refine lv_if_ne (tgt := 156) hx hb dX12_number_147 (by decide) (fun c_14 => ?_) (fun c_14 => ?_)
              · have kc_14 : r_13.toInt ≠ 0 := by have h9 := c_14; simp only [ge_iff_le, gt_iff_lt, x_lt, x_le, x_eq, ne_eq, Int32.not_lt, Int32.not_le] at h9; simp only [Int32.reduceToInt] at h9; omega
                refine lv_iload hx hb dX12_number_156 (lv_at hl 0 rfl) ?_
                have hP : va_P D vwCl (mwd y ad zw (sI (sI (sI (sI σ 2 a) 4 a) 5 (σ.1 5)) 6 (σ.1 6))) H := hP
                have hD : va_D A (mwd y ad zw (sI (sI (sI (sI σ 2 a) 4 a) 5 (σ.1 5)) 6 (σ.1 6))) := hD
                exact x_iretW (v := v) (u := (a, a, (σ.1 5), (σ.1 6))) hx hb hr hQ (by (try dsimp only); exact ⟨by omega, by omega, by omega, by omega, by omega⟩) hP hD hK hS dX12_number_158 hlocks
              · have kc_14 : r_13.toInt = 0 := by have h9 := c_14; simp only [ge_iff_le, gt_iff_lt, x_lt, x_le, x_eq, ne_eq, Int32.not_lt, Int32.not_le] at h9; simp only [Int32.reduceToInt] at h9; omega
                refine lv_aload_n hx hb dX12_number_150 rfl (lv_at hl 4 rfl) ?_
                refine lv_iconst (v := 2) hx hb dX12_number_151 (by decide) ?_
                refine lv_iload_n hx hb dX12_number_152 rfl (lv_at hl 1 rfl) ?_
                refine x_callvW (va_runV (As := [.int 2, .int n_3]) (rest := []) ⟨hx, hb, hml, hown, hts⟩ (q_fail l D y H.size ad zw (sI (sI σ 2 a) 4 a) 2 n_3) (cwV 2 hts g_q_number_2 rfl rfl rfl (by decide +kernel) ⟨Nat.le_of_ble_eq_true rfl, Nat.le_of_ble_eq_true rfl⟩) (x_preV (q := (RX12, TX12, 85)) hK hP hD (ci := 11) (q0 := 0) rfl mwd_o0) rfl rfl hl.1 rfl (lv_room (Nat.le_of_ble_eq_true rfl)) dX12_number_153 ⟨Nat.le_of_ble_eq_true rfl, Nat.le_of_ble_eq_true rfl⟩) hP hD hS hA (fun u H locs hw hP hD hS => ?_)
                obtain ⟨b_15, b_16⟩ := u
                try dsimp only at hw
                have hP : va_P D vwCl (mwd y ad zw (sI (sI (sI (sI σ 2 a) 4 a) 5 b_15) 6 b_16)) H := hP
                have hD : va_D A (mwd y ad zw (sI (sI (sI (sI σ 2 a) 4 a) 5 b_15) 6 b_16)) := hD
                have hw : b_15 = if (σ.1 5) = 0 then (2 : Int32) else (σ.1 5) := hw
                have hbd : b_15.toInt ≠ 0 := by rw [hw]; split <;> first | decide | (rename_i h9; intro h8; exact h9 (Int32.toInt_inj.mp (by rw [h8]; rfl)))
                refine lv_iload hx hb dX12_number_156 (lv_at hl 0 rfl) ?_
                exact x_iretW (v := v) (u := (a, a, b_15, b_16)) hx hb hr hQ (by (try dsimp only); exact ⟨by omega, by omega, by omega, by omega, by omega⟩) hP hD hK hS dX12_number_158 hlocks
            · have kc_9 : a.toInt < (σ.1 3).toInt := by have h9 := c_9; simp only [ge_iff_le, gt_iff_lt, x_lt, x_le, x_eq, ne_eq, Int32.not_lt, Int32.not_le] at h9; omega
              refine lv_aload_n hx hb dX12_number_60 rfl (lv_at hl 4 rfl) ?_
              refine va_get (D := D) (ci := 11) (v := .ref (ad 0)) (C := RX12) (T := TX12) (N := 85) hx hb hts inX12 hown hK hP 0 mwd_o0 rfl 0 (by decide) fl7 (fun _ h9 => h9) rfl dX12_number_61 ?_
              refine lv_aload_n hx hb dX12_number_64 rfl (lv_at hl 4 rfl) ?_
              refine va_get (D := D) (ci := 11) (v := .int a) (C := RX12) (T := TX12) (N := 85) hx hb hts inX12 hown hK hP 0 mwd_o0 rfl 2 (by decide) fl197 (fun _ h9 => h9) rfl dX12_number_65 ?_
              refine va_iald hx hb hK hP 1 2 mwd_a1 rfl (x_in (by omega) (by omega)) dX12_number_68 ?_
              refine lv_topi (fun i_17 ei_17 => ?_)
              have ei_17 : i_17 = (σ.2.2.1 0) (Int32.toNatClampNeg a) := ei_17
              have qi_17 : a.toInt = n_3.toInt → i_17.toInt = ((σ.2.2.1 0) (Int32.toNatClampNeg n_3)).toInt := fun h9 => by rw [ei_17, Int32.toInt_inj.mp h9]
              refine x_calliN (va_runS (As := [.int i_17]) (rest := []) ⟨hx, hb, hml, hown, hts⟩ (q_isDigit2 l D y H.size i_17) (cwS 1 hts g_q_number_1 rfl rfl rfl (by decide +kernel) ⟨Nat.le_of_ble_eq_true rfl, Nat.le_of_ble_eq_true rfl⟩) (x_preS hK (x_nilP D H) (x_nilD A)) rfl rfl hl.1 rfl (lv_room (Nat.le_of_ble_eq_true rfl)) dX12_number_69 ⟨Nat.le_of_ble_eq_true rfl, Nat.le_of_ble_eq_true rfl⟩) hP hD hS hA (fun r_18 u H locs hw hP hD hS => ?_)
              try dsimp only at hw
              refine lv_if_eq (tgt := 129) hx hb dX12_number_72 (by decide) (fun c_19 => ?_) (fun c_19 => ?_)
              · have kc_19 : r_18.toInt = 0 := by have h9 := c_19; simp only [ge_iff_le, gt_iff_lt, x_lt, x_le, x_eq, ne_eq, Int32.not_lt, Int32.not_le] at h9; simp only [Int32.reduceToInt] at h9; omega
                refine lv_aload_n hx hb dX12_number_129 rfl (lv_at hl 4 rfl) ?_
                refine lv_aload_n hx hb dX12_number_130 rfl (lv_at hl 4 rfl) ?_
                refine va_get (D := D) (ci := 11) (v := .int a) (C := RX12) (T := TX12) (N := 85) hx hb hts inX12 hown hK hP 0 mwd_o0 rfl 2 (by decide) fl197 (fun _ h9 => h9) rfl dX12_number_131 ?_
                refine va_put (D := D) (ci := 11) (v := .int a) (ty := .int) (C := RX12) (T := TX12) (N := 85) hx hb hts inX12 tyX12 tyX12_ok nmX12 hown hK hP hD hS 0 mwd_o0 rfl 4 (by decide) fl211 (fun _ h9 => h9) rfl (by decide +kernel) rfl rfl (Nat.le_of_ble_eq_true rfl) dX12_number_134 (fun H locs hP hD hS => ?_)
                have hP : va_P D vwCl (mwd y ad zw (sI (sI σ 2 a) 4 a)) H := x_trP hP mwd_p0_4
                have hD : va_D A (mwd y ad zw (sI (sI σ 2 a) 4 a)) := x_trD hD mwd_p0_4
                refine lv_iload hx hb dX12_number_137 (lv_at hl 0 rfl) ?_
                refine lv_i2l hx hb dX12_number_139 rfl ?_
                refine lv_topl (fun j_20 ej_20 => ?_)
                have vj_20 : j_20.toInt = v.toInt := by rw [ej_20]; exact Int32.toInt_toInt64 _
                refine lv_iload_n hx hb dX12_number_140 rfl (lv_at hl 3 rfl) ?_
                refine lv_i2l hx hb dX12_number_141 rfl ?_
                refine lv_topl (fun j_21 ej_21 => ?_)
                have vj_21 : j_21.toInt = lo.toInt := by rw [ej_21]; exact Int32.toInt_toInt64 _
                refine lv_iload_n hx hb dX12_number_142 rfl (lv_at hl 2 rfl) ?_
                refine lv_i2l hx hb dX12_number_143 rfl ?_
                refine lv_topl (fun j_22 ej_22 => ?_)
                have vj_22 : j_22.toInt = hi.toInt := by rw [ej_22]; exact Int32.toInt_toInt64 _
                refine x_calliN (va_runS (As := [.long j_20, .long j_21, .long j_22]) (rest := []) ⟨hx, hb, hml, hown, hts⟩ (q_isIn l D y H.size j_20 j_21 j_22) (cwS 3 hts g_q_number_3 rfl rfl rfl (by decide +kernel) ⟨Nat.le_of_ble_eq_true rfl, Nat.le_of_ble_eq_true rfl⟩) (x_preS hK (x_nilP D H) (x_nilD A)) rfl rfl hl.1 rfl (lv_room (Nat.le_of_ble_eq_true rfl)) dX12_number_144 ⟨Nat.le_of_ble_eq_true rfl, Nat.le_of_ble_eq_true rfl⟩) hP hD hS hA (fun r_23 u H locs hw hP hD hS => ?_)
                try dsimp only at hw
                refine lv_if_ne (tgt := 156) hx hb dX12_number_147 (by decide) (fun c_24 => ?_) (fun c_24 => ?_)
                · have kc_24 : r_23.toInt ≠ 0 := by have h9 := c_24; simp only [ge_iff_le, gt_iff_lt, x_lt, x_le, x_eq, ne_eq, Int32.not_lt, Int32.not_le] at h9; simp only [Int32.reduceToInt] at h9; omega
                  refine lv_iload hx hb dX12_number_156 (lv_at hl 0 rfl) ?_
                  have hP : va_P D vwCl (mwd y ad zw (sI (sI (sI (sI σ 2 a) 4 a) 5 (σ.1 5)) 6 (σ.1 6))) H := hP
                  have hD : va_D A (mwd y ad zw (sI (sI (sI (sI σ 2 a) 4 a) 5 (σ.1 5)) 6 (σ.1 6))) := hD
                  exact x_iretW (v := v) (u := (a, a, (σ.1 5), (σ.1 6))) hx hb hr hQ (by (try dsimp only); exact ⟨by omega, by omega, by omega, by omega, by omega⟩) hP hD hK hS dX12_number_158 hlocks
                · have kc_24 : r_23.toInt = 0 := by have h9 := c_24; simp only [ge_iff_le, gt_iff_lt, x_lt, x_le, x_eq, ne_eq, Int32.not_lt, Int32.not_le] at h9; simp only [Int32.reduceToInt] at h9; omega
                  refine lv_aload_n hx hb dX12_number_150 rfl (lv_at hl 4 rfl) ?_
                  refine lv_iconst (v := 2) hx hb dX12_number_151 (by decide) ?_
                  refine lv_iload_n hx hb dX12_number_152 rfl (lv_at hl 1 rfl) ?_
                  refine x_callvW (va_runV (As := [.int 2, .int n_3]) (rest := []) ⟨hx, hb, hml, hown, hts⟩ (q_fail l D y H.size ad zw (sI (sI σ 2 a) 4 a) 2 n_3) (cwV 2 hts g_q_number_2 rfl rfl rfl (by decide +kernel) ⟨Nat.le_of_ble_eq_true rfl, Nat.le_of_ble_eq_true rfl⟩) (x_preV (q := (RX12, TX12, 85)) hK hP hD (ci := 11) (q0 := 0) rfl mwd_o0) rfl rfl hl.1 rfl (lv_room (Nat.le_of_ble_eq_true rfl)) dX12_number_153 ⟨Nat.le_of_ble_eq_true rfl, Nat.le_of_ble_eq_true rfl⟩) hP hD hS hA (fun u H locs hw hP hD hS => ?_)
                  obtain ⟨b_25, b_26⟩ := u
                  try dsimp only at hw
                  have hP : va_P D vwCl (mwd y ad zw (sI (sI (sI (sI σ 2 a) 4 a) 5 b_25) 6 b_26)) H := hP
                  have hD : va_D A (mwd y ad zw (sI (sI (sI (sI σ 2 a) 4 a) 5 b_25) 6 b_26)) := hD
                  have hw : b_25 = if (σ.1 5) = 0 then (2 : Int32) else (σ.1 5) := hw
                  have hbd : b_25.toInt ≠ 0 := by rw [hw]; split <;> first | decide | (rename_i h9; intro h8; exact h9 (Int32.toInt_inj.mp (by rw [h8]; rfl)))
                  refine lv_iload hx hb dX12_number_156 (lv_at hl 0 rfl) ?_
                  exact x_iretW (v := v) (u := (a, a, b_25, b_26)) hx hb hr hQ (by (try dsimp only); exact ⟨by omega, by omega, by omega, by omega, by omega⟩) hP hD hK hS dX12_number_158 hlocks
              · have kc_19 : r_18.toInt ≠ 0 := by have h9 := c_19; simp only [ge_iff_le, gt_iff_lt, x_lt, x_le, x_eq, ne_eq, Int32.not_lt, Int32.not_le] at h9; simp only [Int32.reduceToInt] at h9; omega
                refine lv_aload_n hx hb dX12_number_75 rfl (lv_at hl 4 rfl) ?_
                refine va_get (D := D) (ci := 11) (v := .int a) (C := RX12) (T := TX12) (N := 85) hx hb hts inX12 hown hK hP 0 mwd_o0 rfl 2 (by decide) fl197 (fun _ h9 => h9) rfl dX12_number_76 ?_
                refine lv_iload_n hx hb dX12_number_79 rfl (lv_at hl 1 rfl) ?_
                refine lv_isub hx hb dX12_number_80 ?_
                refine lv_topi (fun i_27 ei_27 => ?_)
                have vi_27 : i_27.toInt = a.toInt - n_3.toInt := by have h9 := x_sub ei_27 (by omega) (by omega); omega
                refine lv_iconst (v := 4) hx hb dX12_number_81 (by decide) ?_
                refine lv_icmp_ne (tgt := 96) hx hb dX12_number_82 (by decide) (fun c_28 => ?_) (fun c_28 => ?_)
                · have kc_28 : i_27.toInt ≠ 4 := by have h9 := c_28; simp only [ge_iff_le, gt_iff_lt, x_lt, x_le, x_eq, ne_eq, Int32.not_lt, Int32.not_le] at h9; simp only [Int32.reduceToInt] at h9; omega
                  refine lv_bipush (v := 10) hx hb dX12_number_96 (by decide) ?_
                  refine lv_iload hx hb dX12_number_98 (lv_at hl 0 rfl) ?_
                  refine lv_imul hx hb dX12_number_100 ?_
                  refine lv_topi (fun i_29 ei_29 => ?_)
                  have vi_29 : i_29.toInt = 10 * v.toInt := by have h9 := x_mulIl (n := 10) ei_29 rfl (by omega) (by omega); omega
                  refine lv_aload_n hx hb dX12_number_101 rfl (lv_at hl 4 rfl) ?_
                  refine va_get (D := D) (ci := 11) (v := .ref (ad 0)) (C := RX12) (T := TX12) (N := 85) hx hb hts inX12 hown hK hP 0 mwd_o0 rfl 0 (by decide) fl7 (fun _ h9 => h9) rfl dX12_number_102 ?_
                  refine lv_aload_n hx hb dX12_number_105 rfl (lv_at hl 4 rfl) ?_
                  refine va_get (D := D) (ci := 11) (v := .int a) (C := RX12) (T := TX12) (N := 85) hx hb hts inX12 hown hK hP 0 mwd_o0 rfl 2 (by decide) fl197 (fun _ h9 => h9) rfl dX12_number_106 ?_
                  refine va_iald hx hb hK hP 1 2 mwd_a1 rfl (x_in (by omega) (by omega)) dX12_number_109 ?_
                  refine lv_topi (fun i_30 ei_30 => ?_)
                  have ei_30 : i_30 = (σ.2.2.1 0) (Int32.toNatClampNeg a) := ei_30
                  have qi_30 : a.toInt = n_3.toInt → i_30.toInt = ((σ.2.2.1 0) (Int32.toNatClampNeg n_3)).toInt := fun h9 => by rw [ei_30, Int32.toInt_inj.mp h9]
                  have ri_30 : i_30.toInt = i_17.toInt := by rw [ei_30, ei_17]
                  refine lv_iadd hx hb dX12_number_110 ?_
                  refine lv_topi (fun i_31 ei_31 => ?_)
                  have vi_31 : i_31.toInt = i_29.toInt + i_30.toInt := by have h9 := x_add ei_31 (by omega) (by omega); omega
                  refine lv_bipush (v := 48) hx hb dX12_number_111 (by decide) ?_
                  refine lv_isub hx hb dX12_number_113 ?_
                  refine lv_topi (fun i_32 ei_32 => ?_)
                  have vi_32 : i_32.toInt = i_31.toInt - 48 := by have h9 := x_sub ei_32 (by omega) (by omega); omega
                  refine lv_istore (lv' := [(4, .int i_32), (3, .int n_3), (2, .int hi), (1, .int lo), (0, .ref (ad 1))]) hx hb dX12_number_114 hl (by decide) rfl (fun ls hl => ?_)
                  refine lv_aload_n hx hb dX12_number_116 rfl (lv_at hl 4 rfl) ?_
                  refine lv_dup hx hb dX12_number_117 rfl ?_
                  refine va_get (D := D) (ci := 11) (v := .int a) (C := RX12) (T := TX12) (N := 85) hx hb hts inX12 hown hK hP 0 mwd_o0 rfl 2 (by decide) fl197 (fun _ h9 => h9) rfl dX12_number_118 ?_
                  refine lv_iconst (v := 1) hx hb dX12_number_121 (by decide) ?_
                  refine lv_iadd hx hb dX12_number_122 ?_
                  refine lv_topi (fun i_33 ei_33 => ?_)
                  have vi_33 : i_33.toInt = a.toInt + 1 := by have h9 := x_add ei_33 (by omega) (by omega); omega
                  refine va_put (D := D) (ci := 11) (v := .int i_33) (ty := .int) (C := RX12) (T := TX12) (N := 85) hx hb hts inX12 tyX12 tyX12_ok nmX12 hown hK hP hD hS 0 mwd_o0 rfl 2 (by decide) fl197 (fun _ h9 => h9) rfl (by decide +kernel) rfl rfl (Nat.le_of_ble_eq_true rfl) dX12_number_123 (fun H locs hP hD hS => ?_)
                  have hP : va_P D vwCl (mwd y ad zw (sI (sI σ 2 a) 2 i_33)) H := x_trP hP mwd_p0_2
                  have hD : va_D A (mwd y ad zw (sI (sI σ 2 a) 2 i_33)) := x_trD hD mwd_p0_2
                  refine lv_goto (tgt := 49) hx hb dX12_number_126 (by decide) ?_
                  have hP : va_P D vwCl (mwd y ad zw (sI σ 2 i_33)) H := hP
                  have hD : va_D A (mwd y ad zw (sI σ 2 i_33)) := hD
                  exact ih_loop i_33 i_32 H locs ls (by omega) (by omega) (by omega) (by omega) (by omega) hP hD hS (lv_sub hl [0, 1, 2, 3, 4] rfl)
                · have kc_28 : i_27.toInt = 4 := by have h9 := c_28; simp only [ge_iff_le, gt_iff_lt, x_lt, x_le, x_eq, ne_eq, Int32.not_lt, Int32.not_le] at h9; simp only [Int32.reduceToInt] at h9; omega
                  refine lv_aload_n hx hb dX12_number_85 rfl (lv_at hl 4 rfl) ?_
                  refine lv_iconst (v := 1) hx hb dX12_number_86 (by decide) ?_
                  refine lv_aload_n hx hb dX12_number_87 rfl (lv_at hl 4 rfl) ?_
                  refine va_get (D := D) (ci := 11) (v := .int a) (C := RX12) (T := TX12) (N := 85) hx hb hts inX12 hown hK hP 0 mwd_o0 rfl 2 (by decide) fl197 (fun _ h9 => h9) rfl dX12_number_88 ?_
                  refine x_callvW (va_runV (As := [.int 1, .int a]) (rest := []) ⟨hx, hb, hml, hown, hts⟩ (q_fail l D y H.size ad zw (sI σ 2 a) 1 a) (cwV 2 hts g_q_number_2 rfl rfl rfl (by decide +kernel) ⟨Nat.le_of_ble_eq_true rfl, Nat.le_of_ble_eq_true rfl⟩) (x_preV (q := (RX12, TX12, 85)) hK hP hD (ci := 11) (q0 := 0) rfl mwd_o0) rfl rfl hl.1 rfl (lv_room (Nat.le_of_ble_eq_true rfl)) dX12_number_91 ⟨Nat.le_of_ble_eq_true rfl, Nat.le_of_ble_eq_true rfl⟩) hP hD hS hA (fun u H locs hw hP hD hS => ?_)
                  obtain ⟨b_34, b_35⟩ := u
                  try dsimp only at hw
                  have hP : va_P D vwCl (mwd y ad zw (sI (sI (sI σ 2 a) 5 b_34) 6 b_35)) H := hP
                  have hD : va_D A (mwd y ad zw (sI (sI (sI σ 2 a) 5 b_34) 6 b_35)) := hD
                  have hw : b_34 = if (σ.1 5) = 0 then (1 : Int32) else (σ.1 5) := hw
                  have hbd : b_34.toInt ≠ 0 := by rw [hw]; split <;> first | decide | (rename_i h9; intro h8; exact h9 (Int32.toInt_inj.mp (by rw [h8]; rfl)))
                  refine lv_iconst (v := 0) hx hb dX12_number_94 (by decide) ?_
                  have hP : va_P D vwCl (mwd y ad zw (sI (sI (sI (sI σ 2 a) 4 (σ.1 4)) 5 b_34) 6 b_35)) H := hP
                  have hD : va_D A (mwd y ad zw (sI (sI (sI (sI σ 2 a) 4 (σ.1 4)) 5 b_34) 6 b_35)) := hD
                  exact x_iretW (v := 0) (u := (a, (σ.1 4), b_34, b_35)) hx hb hr hQ (by (try dsimp only); exact ⟨by omega, by omega, by omega, by omega, by omega⟩) hP hD hK hS dX12_number_95 hlocks
        exact loop 701 n_3 0 H locs ls (Int.le_refl _) (by omega) (by decide) (by have h7 : (0 : Int32).toInt = 0 := rfl; omega) (by omega) hP hD hS (lv_sub hl [0, 1, 4, 3, 2] rfl)
      · have kc_8 : n_3.toInt = (σ.1 4).toInt := by have h9 := c_8; simp only [ge_iff_le, gt_iff_lt, x_lt, x_le, x_eq, ne_eq, Int32.not_lt, Int32.not_le] at h9; omega
        refine lv_aload_n hx hb dX12_number_30 rfl (lv_at hl 0 rfl) ?_
        refine lv_iconst (v := 1) hx hb dX12_number_31 (by decide) ?_
        refine lv_aload_n hx hb dX12_number_32 rfl (lv_at hl 0 rfl) ?_
        refine va_get (D := D) (ci := 11) (v := .int n_3) (C := RX12) (T := TX12) (N := 85) hx hb hts inX12 hown hK hP 0 mwd_o0 rfl 2 (by decide) fl197 (fun _ h9 => h9) rfl dX12_number_33 ?_
        refine x_callvW (va_runV (As := [.int 1, .int n_3]) (rest := []) ⟨hx, hb, hml, hown, hts⟩ (q_fail l D y H.size ad zw (sI σ 2 n_3) 1 n_3) (cwV 2 hts g_q_number_2 rfl rfl rfl (by decide +kernel) ⟨Nat.le_of_ble_eq_true rfl, Nat.le_of_ble_eq_true rfl⟩) (x_preV (q := (RX12, TX12, 85)) hK hP hD (ci := 11) (q0 := 0) rfl mwd_o0) rfl rfl hl.1 rfl (lv_room (Nat.le_of_ble_eq_true rfl)) dX12_number_36 ⟨Nat.le_of_ble_eq_true rfl, Nat.le_of_ble_eq_true rfl⟩) hP hD hS hA (fun u H locs hw hP hD hS => ?_)
        obtain ⟨b_36, b_37⟩ := u
        try dsimp only at hw
        have hP : va_P D vwCl (mwd y ad zw (sI (sI (sI σ 2 n_3) 5 b_36) 6 b_37)) H := hP
        have hD : va_D A (mwd y ad zw (sI (sI (sI σ 2 n_3) 5 b_36) 6 b_37)) := hD
        have hw : b_36 = if (σ.1 5) = 0 then (1 : Int32) else (σ.1 5) := hw
        have hbd : b_36.toInt ≠ 0 := by rw [hw]; split <;> first | decide | (rename_i h9; intro h8; exact h9 (Int32.toInt_inj.mp (by rw [h8]; rfl)))
        refine lv_iconst (v := 0) hx hb dX12_number_39 (by decide) ?_
        have hP : va_P D vwCl (mwd y ad zw (sI (sI (sI (sI σ 2 n_3) 4 (σ.1 4)) 5 b_36) 6 b_37)) H := hP
        have hD : va_D A (mwd y ad zw (sI (sI (sI (sI σ 2 n_3) 4 (σ.1 4)) 5 b_36) 6 b_37)) := hD
        exact x_iretW (v := 0) (u := (n_3, (σ.1 4), b_36, b_37)) hx hb hr hQ (by (try dsimp only); exact ⟨by omega, by omega, by omega, by omega, by omega⟩) hP hD hK hS dX12_number_40 hlocks
  · have kc_1 : (σ.1 5).toInt ≠ 0 := by have h9 := c_1; simp only [ge_iff_le, gt_iff_lt, x_lt, x_le, x_eq, ne_eq, Int32.not_lt, Int32.not_le] at h9; simp only [Int32.reduceToInt] at h9; omega
    refine lv_iconst (v := 0) hx hb dX12_number_7 (by decide) ?_
    have hP : va_P D vwCl (mwd y ad zw (sI (sI (sI (sI σ 2 (σ.1 2)) 4 (σ.1 4)) 5 (σ.1 5)) 6 (σ.1 6))) H := hP
    have hD : va_D A (mwd y ad zw (sI (sI (sI (sI σ 2 (σ.1 2)) 4 (σ.1 4)) 5 (σ.1 5)) 6 (σ.1 6))) := hD
    exact x_iretW (v := 0) (u := ((σ.1 2), (σ.1 4), (σ.1 5), (σ.1 6))) hx hb hr hQ (by (try dsimp only); exact ⟨by omega, by omega, by omega, by omega, by omega⟩) hP hD hK hS dX12_number_8 hlocks

def v_q_isOwnHere : List Cond := .code yX12_isOwnHere cX12_isOwnHere 2 (some .boolean) :: ([.fieldLink RX12 39 "SlopeRunnerModel" "whileWord" "[C", .fieldLink RX12 42 "SlopeRunnerModel" "andWord" "[C", .fieldLink RX12 45 "SlopeRunnerModel" "orWord" "[C", .fieldLink RX12 48 "SlopeRunnerModel" "notWord" "[C", .fieldLink RX12 51 "SlopeRunnerModel" "absWord" "[C", .fieldLink RX12 54 "SlopeRunnerModel" "minWord" "[C", .fieldLink RX12 57 "SlopeRunnerModel" "maxWord" "[C", .fieldLink RX12 17 "SlopeRunnerModel" "inputWord" "[C", .fieldLink RX12 21 "SlopeRunnerModel" "rowWord" "[C", .fieldLink RX12 24 "SlopeRunnerModel" "varWord" "[C", .fieldLink RX12 27 "SlopeRunnerModel" "setWord" "[C", .fieldLink RX12 30 "SlopeRunnerModel" "giveWord" "[C", .fieldLink RX12 33 "SlopeRunnerModel" "ifWord" "[C", .fieldLink RX12 36 "SlopeRunnerModel" "elseWord" "[C"] ++ ((wsV RX12 214 RX12 yX12_isHere v_q_isHere) ++ wsX120))
theorem g_q_isOwnHere_0 : GoodIn v_q_isOwnHere (wsV RX12 214 RX12 yX12_isHere v_q_isHere) := goodIn_sub (fun w h => List.mem_cons_of_mem _ (List.mem_append_right _ (List.mem_append_left _ h))) (by decide +kernel)
set_option maxHeartbeats 4000000 in
set_option maxRecDepth 100000 in
theorem q_isOwnHere (l : Launch) (D : va_G) (y : Nat → ClassId) (sz : Nat) (ad : Nat → Nat) (zw : Nat → Nat → Int32) (σ : OS) (ha0 : 0 ≤ (σ.1 2).toInt) (ha1 : (σ.1 2).toInt ≤ (σ.1 3).toInt) (ha2 : (σ.1 3).toInt ≤ 700) : Met l yX12_isOwnHere v_q_isOwnHere ({ frames := 2, cells := 0, slots := 0, locals := 43 } : Room) (va_Pc [.ref (ad 1)] (xPre D (xT y) (mwd y ad zw σ) sz)) (va_Qi (fun (r : Int32) (u : Int32) => (σ.1 2).toInt ≤ u.toInt ∧ u.toInt ≤ (σ.1 3).toInt) (fun (u : Int32) => xB D (xT y) (va_A (mwd y ad zw σ) sz) (mwd y ad zw (sI σ 2 u))) (va_A (mwd y ad zw σ) sz)) 0 0 (va_A (mwd y ad zw σ) sz) := by
  refine x_meti (cc := cX12_isOwnHere) (maxL := 2) (by decide) rfl (Nat.le_of_ble_eq_true rfl) ?_
  intro p e s m below meth c A H locs Q hx hb hml hown hts hr hlocks hmn hA hP hK hD hS ls hl hQ
  have hl : lv_has ls 2 [(0, .ref (ad 1))] := hl
  have kk_1 : (1 : Int32).toInt = 1 := rfl
  have kk_0 : (0 : Int32).toInt = 0 := rfl
  have fl39 := hts (.fieldLink RX12 39 "SlopeRunnerModel" "whileWord" "[C") (List.mem_of_getElem? (i := 1) rfl)
  have inX12 : ∀ w ∈ wsX120, w ∈ v_q_isOwnHere := (fun w h => List.mem_cons_of_mem _ (List.mem_append_right _ (List.mem_append_right _ h)))
  have fl42 := hts (.fieldLink RX12 42 "SlopeRunnerModel" "andWord" "[C") (List.mem_of_getElem? (i := 2) rfl)
  have fl45 := hts (.fieldLink RX12 45 "SlopeRunnerModel" "orWord" "[C") (List.mem_of_getElem? (i := 3) rfl)
  have fl48 := hts (.fieldLink RX12 48 "SlopeRunnerModel" "notWord" "[C") (List.mem_of_getElem? (i := 4) rfl)
  have fl51 := hts (.fieldLink RX12 51 "SlopeRunnerModel" "absWord" "[C") (List.mem_of_getElem? (i := 5) rfl)
  have fl54 := hts (.fieldLink RX12 54 "SlopeRunnerModel" "minWord" "[C") (List.mem_of_getElem? (i := 6) rfl)
  have fl57 := hts (.fieldLink RX12 57 "SlopeRunnerModel" "maxWord" "[C") (List.mem_of_getElem? (i := 7) rfl)
  have fl17 := hts (.fieldLink RX12 17 "SlopeRunnerModel" "inputWord" "[C") (List.mem_of_getElem? (i := 8) rfl)
  have fl21 := hts (.fieldLink RX12 21 "SlopeRunnerModel" "rowWord" "[C") (List.mem_of_getElem? (i := 9) rfl)
  have fl24 := hts (.fieldLink RX12 24 "SlopeRunnerModel" "varWord" "[C") (List.mem_of_getElem? (i := 10) rfl)
  have fl27 := hts (.fieldLink RX12 27 "SlopeRunnerModel" "setWord" "[C") (List.mem_of_getElem? (i := 11) rfl)
  have fl30 := hts (.fieldLink RX12 30 "SlopeRunnerModel" "giveWord" "[C") (List.mem_of_getElem? (i := 12) rfl)
  have fl33 := hts (.fieldLink RX12 33 "SlopeRunnerModel" "ifWord" "[C") (List.mem_of_getElem? (i := 13) rfl)
  have fl36 := hts (.fieldLink RX12 36 "SlopeRunnerModel" "elseWord" "[C") (List.mem_of_getElem? (i := 14) rfl)
  have cut164 : ∀ (a : Int32) (H : Heap) (locs : List Loc) (ls : Array Slot), ((σ.1 2).toInt ≤ a.toInt) → (a.toInt ≤ (σ.1 3).toInt) → va_P D vwCl (mwd y ad zw (sI σ 2 a)) H → va_D A (mwd y ad zw (sI σ 2 a)) → va_S A s.heap H locs → lv_has ls 2 [(0, .ref (ad 1))] → W p l e ({ frames := 2, cells := 0, slots := 0, locals := 43 } : Room) s m ([.ref (ad 1)] : List Value).toArray below meth c H locs 0 0 Q (F0 m 164 ls []) := by
    intro a H locs ls hl0 hl1 hP hD hS hl
    refine lv_iconst (v := 1) hx hb dX12_isOwnHere_164 (by decide) ?_
    refine lv_goto (tgt := 169) hx hb dX12_isOwnHere_165 (by decide) ?_
    exact x_zretW (v := 1) (u := a) hx hb hr hQ rfl ⟨by omega, by omega⟩ hP hD hK hS dX12_isOwnHere_169 hlocks
  have cut83 : ∀ (a : Int32) (b : Int32) (H : Heap) (locs : List Loc) (ls : Array Slot), ((σ.1 2).toInt ≤ a.toInt) → (a.toInt ≤ (σ.1 3).toInt) → va_P D vwCl (mwd y ad zw (sI σ 2 a)) H → va_D A (mwd y ad zw (sI σ 2 a)) → va_S A s.heap H locs → lv_has ls 2 [(1, .int b), (0, .ref (ad 1))] → W p l e ({ frames := 2, cells := 0, slots := 0, locals := 43 } : Room) s m ([.ref (ad 1)] : List Value).toArray below meth c H locs 0 0 Q (F0 m 83 ls []) := by
    intro a b H locs ls hl0 hl1 hP hD hS hl
    refine lv_iload_n hx hb dX12_isOwnHere_83 rfl (lv_at hl 0 rfl) ?_
    refine lv_if_ne (tgt := 164) hx hb dX12_isOwnHere_84 (by decide) (fun c_1 => ?_) (fun c_1 => ?_)
    · have kc_1 : b.toInt ≠ 0 := by have h9 := c_1; simp only [ge_iff_le, gt_iff_lt, x_lt, x_le, x_eq, ne_eq, Int32.not_lt, Int32.not_le] at h9; simp only [Int32.reduceToInt] at h9; omega
      exact cut164 a H locs ls (by omega) (by omega) hP hD hS (lv_sub hl [1] rfl)
    · have kc_1 : b.toInt = 0 := by have h9 := c_1; simp only [ge_iff_le, gt_iff_lt, x_lt, x_le, x_eq, ne_eq, Int32.not_lt, Int32.not_le] at h9; simp only [Int32.reduceToInt] at h9; omega
      refine lv_aload_n hx hb dX12_isOwnHere_87 rfl (lv_at hl 1 rfl) ?_
      refine lv_aload_n hx hb dX12_isOwnHere_88 rfl (lv_at hl 1 rfl) ?_
      refine va_get (D := D) (ci := 11) (v := .ref (ad 16)) (C := RX12) (T := TX12) (N := 85) hx hb hts inX12 hown hK hP 0 mwd_o0 rfl 16 (by decide) fl39 (fun _ h9 => h9) rfl dX12_isOwnHere_89 ?_
      refine x_calliW (va_runV (As := [.ref (ad 16)]) (rest := []) ⟨hx, hb, hml, hown, hts⟩ (q_isHere l D y H.size ad zw (sI σ 2 a) (ad 16) 5 9 (zw 16) (fun _ => rfl) (by decide) (by decide) (show 0 ≤ (a).toInt from by first | omega | decide) (show (a).toInt ≤ ((σ.1 3)).toInt from by first | omega | decide) (show ((σ.1 3)).toInt ≤ 700 from by first | omega | decide)) (cwV 1 hts g_q_isOwnHere_0 rfl rfl rfl (by decide +kernel) ⟨Nat.le_of_ble_eq_true rfl, Nat.le_of_ble_eq_true rfl⟩) (x_preV (q := (RX12, TX12, 85)) hK hP hD (ci := 11) (q0 := 0) rfl mwd_o0) rfl rfl hl.1 rfl (lv_room (Nat.le_of_ble_eq_true rfl)) dX12_isOwnHere_92 ⟨Nat.le_of_ble_eq_true rfl, Nat.le_of_ble_eq_true rfl⟩) hP hD hS hA (fun r_2 u H locs hw hP hD hS => ?_)
      obtain ⟨n_3, rfl⟩ : ∃ z9, z9 = u := ⟨_, rfl⟩
      try dsimp only at hw
      have hP : va_P D vwCl (mwd y ad zw (sI (sI σ 2 a) 2 n_3)) H := hP
      have hD : va_D A (mwd y ad zw (sI (sI σ 2 a) 2 n_3)) := hD
      have hw : (a).toInt ≤ n_3.toInt ∧ n_3.toInt ≤ ((σ.1 3)).toInt ∧ (r_2.toInt = 0 ∨ (r_2.toInt = 1 ∧ ((σ.1 5)).toInt = 0 ∧ n_3.toInt + 5 ≤ ((σ.1 3)).toInt)) := hw
      refine lv_if_ne (tgt := 164) hx hb dX12_isOwnHere_95 (by decide) (fun c_4 => ?_) (fun c_4 => ?_)
      · have kc_4 : r_2.toInt ≠ 0 := by have h9 := c_4; simp only [ge_iff_le, gt_iff_lt, x_lt, x_le, x_eq, ne_eq, Int32.not_lt, Int32.not_le] at h9; simp only [Int32.reduceToInt] at h9; omega
        have hP : va_P D vwCl (mwd y ad zw (sI σ 2 n_3)) H := hP
        have hD : va_D A (mwd y ad zw (sI σ 2 n_3)) := hD
        exact cut164 n_3 H locs ls (by omega) (by omega) hP hD hS (lv_sub hl [1] rfl)
      · have kc_4 : r_2.toInt = 0 := by have h9 := c_4; simp only [ge_iff_le, gt_iff_lt, x_lt, x_le, x_eq, ne_eq, Int32.not_lt, Int32.not_le] at h9; simp only [Int32.reduceToInt] at h9; omega
        refine lv_aload_n hx hb dX12_isOwnHere_98 rfl (lv_at hl 1 rfl) ?_
        refine lv_aload_n hx hb dX12_isOwnHere_99 rfl (lv_at hl 1 rfl) ?_
        refine va_get (D := D) (ci := 11) (v := .ref (ad 17)) (C := RX12) (T := TX12) (N := 85) hx hb hts inX12 hown hK hP 0 mwd_o0 rfl 17 (by decide) fl42 (fun _ h9 => h9) rfl dX12_isOwnHere_100 ?_
        refine x_calliW (va_runV (As := [.ref (ad 17)]) (rest := []) ⟨hx, hb, hml, hown, hts⟩ (q_isHere l D y H.size ad zw (sI (sI σ 2 a) 2 n_3) (ad 17) 3 10 (zw 17) (fun _ => rfl) (by decide) (by decide) (show 0 ≤ (n_3).toInt from by first | omega | decide) (show (n_3).toInt ≤ ((σ.1 3)).toInt from by first | omega | decide) (show ((σ.1 3)).toInt ≤ 700 from by first | omega | decide)) (cwV 1 hts g_q_isOwnHere_0 rfl rfl rfl (by decide +kernel) ⟨Nat.le_of_ble_eq_true rfl, Nat.le_of_ble_eq_true rfl⟩) (x_preV (q := (RX12, TX12, 85)) hK hP hD (ci := 11) (q0 := 0) rfl mwd_o0) rfl rfl hl.1 rfl (lv_room (Nat.le_of_ble_eq_true rfl)) dX12_isOwnHere_103 ⟨Nat.le_of_ble_eq_true rfl, Nat.le_of_ble_eq_true rfl⟩) hP hD hS hA (fun r_5 u H locs hw hP hD hS => ?_)
        obtain ⟨n_6, rfl⟩ : ∃ z9, z9 = u := ⟨_, rfl⟩
        try dsimp only at hw
        have hP : va_P D vwCl (mwd y ad zw (sI (sI (sI σ 2 a) 2 n_3) 2 n_6)) H := hP
        have hD : va_D A (mwd y ad zw (sI (sI (sI σ 2 a) 2 n_3) 2 n_6)) := hD
        have hw : (n_3).toInt ≤ n_6.toInt ∧ n_6.toInt ≤ ((σ.1 3)).toInt ∧ (r_5.toInt = 0 ∨ (r_5.toInt = 1 ∧ ((σ.1 5)).toInt = 0 ∧ n_6.toInt + 3 ≤ ((σ.1 3)).toInt)) := hw
        refine lv_if_ne (tgt := 164) hx hb dX12_isOwnHere_106 (by decide) (fun c_7 => ?_) (fun c_7 => ?_)
        · have kc_7 : r_5.toInt ≠ 0 := by have h9 := c_7; simp only [ge_iff_le, gt_iff_lt, x_lt, x_le, x_eq, ne_eq, Int32.not_lt, Int32.not_le] at h9; simp only [Int32.reduceToInt] at h9; omega
          have hP : va_P D vwCl (mwd y ad zw (sI σ 2 n_6)) H := hP
          have hD : va_D A (mwd y ad zw (sI σ 2 n_6)) := hD
          exact cut164 n_6 H locs ls (by omega) (by omega) hP hD hS (lv_sub hl [1] rfl)
        · have kc_7 : r_5.toInt = 0 := by have h9 := c_7; simp only [ge_iff_le, gt_iff_lt, x_lt, x_le, x_eq, ne_eq, Int32.not_lt, Int32.not_le] at h9; simp only [Int32.reduceToInt] at h9; omega
          refine lv_aload_n hx hb dX12_isOwnHere_109 rfl (lv_at hl 1 rfl) ?_
          refine lv_aload_n hx hb dX12_isOwnHere_110 rfl (lv_at hl 1 rfl) ?_
          refine va_get (D := D) (ci := 11) (v := .ref (ad 18)) (C := RX12) (T := TX12) (N := 85) hx hb hts inX12 hown hK hP 0 mwd_o0 rfl 18 (by decide) fl45 (fun _ h9 => h9) rfl dX12_isOwnHere_111 ?_
          refine x_calliW (va_runV (As := [.ref (ad 18)]) (rest := []) ⟨hx, hb, hml, hown, hts⟩ (q_isHere l D y H.size ad zw (sI (sI (sI σ 2 a) 2 n_3) 2 n_6) (ad 18) 2 11 (zw 18) (fun _ => rfl) (by decide) (by decide) (show 0 ≤ (n_6).toInt from by first | omega | decide) (show (n_6).toInt ≤ ((σ.1 3)).toInt from by first | omega | decide) (show ((σ.1 3)).toInt ≤ 700 from by first | omega | decide)) (cwV 1 hts g_q_isOwnHere_0 rfl rfl rfl (by decide +kernel) ⟨Nat.le_of_ble_eq_true rfl, Nat.le_of_ble_eq_true rfl⟩) (x_preV (q := (RX12, TX12, 85)) hK hP hD (ci := 11) (q0 := 0) rfl mwd_o0) rfl rfl hl.1 rfl (lv_room (Nat.le_of_ble_eq_true rfl)) dX12_isOwnHere_114 ⟨Nat.le_of_ble_eq_true rfl, Nat.le_of_ble_eq_true rfl⟩) hP hD hS hA (fun r_8 u H locs hw hP hD hS => ?_)
          obtain ⟨n_9, rfl⟩ : ∃ z9, z9 = u := ⟨_, rfl⟩
          try dsimp only at hw
          have hP : va_P D vwCl (mwd y ad zw (sI (sI (sI (sI σ 2 a) 2 n_3) 2 n_6) 2 n_9)) H := hP
          have hD : va_D A (mwd y ad zw (sI (sI (sI (sI σ 2 a) 2 n_3) 2 n_6) 2 n_9)) := hD
          have hw : (n_6).toInt ≤ n_9.toInt ∧ n_9.toInt ≤ ((σ.1 3)).toInt ∧ (r_8.toInt = 0 ∨ (r_8.toInt = 1 ∧ ((σ.1 5)).toInt = 0 ∧ n_9.toInt + 2 ≤ ((σ.1 3)).toInt)) := hw
          refine lv_if_ne (tgt := 164) hx hb dX12_isOwnHere_117 (by decide) (fun c_10 => ?_) (fun c_10 => ?_)
          · have kc_10 : r_8.toInt ≠ 0 := by have h9 := c_10; simp only [ge_iff_le, gt_iff_lt, x_lt, x_le, x_eq, ne_eq, Int32.not_lt, Int32.not_le] at h9; simp only [Int32.reduceToInt] at h9; omega
            have hP : va_P D vwCl (mwd y ad zw (sI σ 2 n_9)) H := hP
            have hD : va_D A (mwd y ad zw (sI σ 2 n_9)) := hD
            exact cut164 n_9 H locs ls (by omega) (by omega) hP hD hS (lv_sub hl [1] rfl)
          · have kc_10 : r_8.toInt = 0 := by have h9 := c_10; simp only [ge_iff_le, gt_iff_lt, x_lt, x_le, x_eq, ne_eq, Int32.not_lt, Int32.not_le] at h9; simp only [Int32.reduceToInt] at h9; omega
            refine lv_aload_n hx hb dX12_isOwnHere_120 rfl (lv_at hl 1 rfl) ?_
            refine lv_aload_n hx hb dX12_isOwnHere_121 rfl (lv_at hl 1 rfl) ?_
            refine va_get (D := D) (ci := 11) (v := .ref (ad 19)) (C := RX12) (T := TX12) (N := 85) hx hb hts inX12 hown hK hP 0 mwd_o0 rfl 19 (by decide) fl48 (fun _ h9 => h9) rfl dX12_isOwnHere_122 ?_
            refine x_calliW (va_runV (As := [.ref (ad 19)]) (rest := []) ⟨hx, hb, hml, hown, hts⟩ (q_isHere l D y H.size ad zw (sI (sI (sI (sI σ 2 a) 2 n_3) 2 n_6) 2 n_9) (ad 19) 3 12 (zw 19) (fun _ => rfl) (by decide) (by decide) (show 0 ≤ (n_9).toInt from by first | omega | decide) (show (n_9).toInt ≤ ((σ.1 3)).toInt from by first | omega | decide) (show ((σ.1 3)).toInt ≤ 700 from by first | omega | decide)) (cwV 1 hts g_q_isOwnHere_0 rfl rfl rfl (by decide +kernel) ⟨Nat.le_of_ble_eq_true rfl, Nat.le_of_ble_eq_true rfl⟩) (x_preV (q := (RX12, TX12, 85)) hK hP hD (ci := 11) (q0 := 0) rfl mwd_o0) rfl rfl hl.1 rfl (lv_room (Nat.le_of_ble_eq_true rfl)) dX12_isOwnHere_125 ⟨Nat.le_of_ble_eq_true rfl, Nat.le_of_ble_eq_true rfl⟩) hP hD hS hA (fun r_11 u H locs hw hP hD hS => ?_)
            obtain ⟨n_12, rfl⟩ : ∃ z9, z9 = u := ⟨_, rfl⟩
            try dsimp only at hw
            have hP : va_P D vwCl (mwd y ad zw (sI (sI (sI (sI (sI σ 2 a) 2 n_3) 2 n_6) 2 n_9) 2 n_12)) H := hP
            have hD : va_D A (mwd y ad zw (sI (sI (sI (sI (sI σ 2 a) 2 n_3) 2 n_6) 2 n_9) 2 n_12)) := hD
            have hw : (n_9).toInt ≤ n_12.toInt ∧ n_12.toInt ≤ ((σ.1 3)).toInt ∧ (r_11.toInt = 0 ∨ (r_11.toInt = 1 ∧ ((σ.1 5)).toInt = 0 ∧ n_12.toInt + 3 ≤ ((σ.1 3)).toInt)) := hw
            refine lv_if_ne (tgt := 164) hx hb dX12_isOwnHere_128 (by decide) (fun c_13 => ?_) (fun c_13 => ?_)
            · have kc_13 : r_11.toInt ≠ 0 := by have h9 := c_13; simp only [ge_iff_le, gt_iff_lt, x_lt, x_le, x_eq, ne_eq, Int32.not_lt, Int32.not_le] at h9; simp only [Int32.reduceToInt] at h9; omega
              have hP : va_P D vwCl (mwd y ad zw (sI σ 2 n_12)) H := hP
              have hD : va_D A (mwd y ad zw (sI σ 2 n_12)) := hD
              exact cut164 n_12 H locs ls (by omega) (by omega) hP hD hS (lv_sub hl [1] rfl)
            · have kc_13 : r_11.toInt = 0 := by have h9 := c_13; simp only [ge_iff_le, gt_iff_lt, x_lt, x_le, x_eq, ne_eq, Int32.not_lt, Int32.not_le] at h9; simp only [Int32.reduceToInt] at h9; omega
              refine lv_aload_n hx hb dX12_isOwnHere_131 rfl (lv_at hl 1 rfl) ?_
              refine lv_aload_n hx hb dX12_isOwnHere_132 rfl (lv_at hl 1 rfl) ?_
              refine va_get (D := D) (ci := 11) (v := .ref (ad 20)) (C := RX12) (T := TX12) (N := 85) hx hb hts inX12 hown hK hP 0 mwd_o0 rfl 20 (by decide) fl51 (fun _ h9 => h9) rfl dX12_isOwnHere_133 ?_
              refine x_calliW (va_runV (As := [.ref (ad 20)]) (rest := []) ⟨hx, hb, hml, hown, hts⟩ (q_isHere l D y H.size ad zw (sI (sI (sI (sI (sI σ 2 a) 2 n_3) 2 n_6) 2 n_9) 2 n_12) (ad 20) 3 13 (zw 20) (fun _ => rfl) (by decide) (by decide) (show 0 ≤ (n_12).toInt from by first | omega | decide) (show (n_12).toInt ≤ ((σ.1 3)).toInt from by first | omega | decide) (show ((σ.1 3)).toInt ≤ 700 from by first | omega | decide)) (cwV 1 hts g_q_isOwnHere_0 rfl rfl rfl (by decide +kernel) ⟨Nat.le_of_ble_eq_true rfl, Nat.le_of_ble_eq_true rfl⟩) (x_preV (q := (RX12, TX12, 85)) hK hP hD (ci := 11) (q0 := 0) rfl mwd_o0) rfl rfl hl.1 rfl (lv_room (Nat.le_of_ble_eq_true rfl)) dX12_isOwnHere_136 ⟨Nat.le_of_ble_eq_true rfl, Nat.le_of_ble_eq_true rfl⟩) hP hD hS hA (fun r_14 u H locs hw hP hD hS => ?_)
              obtain ⟨n_15, rfl⟩ : ∃ z9, z9 = u := ⟨_, rfl⟩
              try dsimp only at hw
              have hP : va_P D vwCl (mwd y ad zw (sI (sI (sI (sI (sI (sI σ 2 a) 2 n_3) 2 n_6) 2 n_9) 2 n_12) 2 n_15)) H := hP
              have hD : va_D A (mwd y ad zw (sI (sI (sI (sI (sI (sI σ 2 a) 2 n_3) 2 n_6) 2 n_9) 2 n_12) 2 n_15)) := hD
              have hw : (n_12).toInt ≤ n_15.toInt ∧ n_15.toInt ≤ ((σ.1 3)).toInt ∧ (r_14.toInt = 0 ∨ (r_14.toInt = 1 ∧ ((σ.1 5)).toInt = 0 ∧ n_15.toInt + 3 ≤ ((σ.1 3)).toInt)) := hw
              refine lv_if_ne (tgt := 164) hx hb dX12_isOwnHere_139 (by decide) (fun c_16 => ?_) (fun c_16 => ?_)
              · have kc_16 : r_14.toInt ≠ 0 := by have h9 := c_16; simp only [ge_iff_le, gt_iff_lt, x_lt, x_le, x_eq, ne_eq, Int32.not_lt, Int32.not_le] at h9; simp only [Int32.reduceToInt] at h9; omega
                have hP : va_P D vwCl (mwd y ad zw (sI σ 2 n_15)) H := hP
                have hD : va_D A (mwd y ad zw (sI σ 2 n_15)) := hD
                exact cut164 n_15 H locs ls (by omega) (by omega) hP hD hS (lv_sub hl [1] rfl)
              · have kc_16 : r_14.toInt = 0 := by have h9 := c_16; simp only [ge_iff_le, gt_iff_lt, x_lt, x_le, x_eq, ne_eq, Int32.not_lt, Int32.not_le] at h9; simp only [Int32.reduceToInt] at h9; omega
                refine lv_aload_n hx hb dX12_isOwnHere_142 rfl (lv_at hl 1 rfl) ?_
                refine lv_aload_n hx hb dX12_isOwnHere_143 rfl (lv_at hl 1 rfl) ?_
                refine va_get (D := D) (ci := 11) (v := .ref (ad 21)) (C := RX12) (T := TX12) (N := 85) hx hb hts inX12 hown hK hP 0 mwd_o0 rfl 21 (by decide) fl54 (fun _ h9 => h9) rfl dX12_isOwnHere_144 ?_
                refine x_calliW (va_runV (As := [.ref (ad 21)]) (rest := []) ⟨hx, hb, hml, hown, hts⟩ (q_isHere l D y H.size ad zw (sI (sI (sI (sI (sI (sI σ 2 a) 2 n_3) 2 n_6) 2 n_9) 2 n_12) 2 n_15) (ad 21) 3 14 (zw 21) (fun _ => rfl) (by decide) (by decide) (show 0 ≤ (n_15).toInt from by first | omega | decide) (show (n_15).toInt ≤ ((σ.1 3)).toInt from by first | omega | decide) (show ((σ.1 3)).toInt ≤ 700 from by first | omega | decide)) (cwV 1 hts g_q_isOwnHere_0 rfl rfl rfl (by decide +kernel) ⟨Nat.le_of_ble_eq_true rfl, Nat.le_of_ble_eq_true rfl⟩) (x_preV (q := (RX12, TX12, 85)) hK hP hD (ci := 11) (q0 := 0) rfl mwd_o0) rfl rfl hl.1 rfl (lv_room (Nat.le_of_ble_eq_true rfl)) dX12_isOwnHere_147 ⟨Nat.le_of_ble_eq_true rfl, Nat.le_of_ble_eq_true rfl⟩) hP hD hS hA (fun r_17 u H locs hw hP hD hS => ?_)
                obtain ⟨n_18, rfl⟩ : ∃ z9, z9 = u := ⟨_, rfl⟩
                try dsimp only at hw
                have hP : va_P D vwCl (mwd y ad zw (sI (sI (sI (sI (sI (sI (sI σ 2 a) 2 n_3) 2 n_6) 2 n_9) 2 n_12) 2 n_15) 2 n_18)) H := hP
                have hD : va_D A (mwd y ad zw (sI (sI (sI (sI (sI (sI (sI σ 2 a) 2 n_3) 2 n_6) 2 n_9) 2 n_12) 2 n_15) 2 n_18)) := hD
                have hw : (n_15).toInt ≤ n_18.toInt ∧ n_18.toInt ≤ ((σ.1 3)).toInt ∧ (r_17.toInt = 0 ∨ (r_17.toInt = 1 ∧ ((σ.1 5)).toInt = 0 ∧ n_18.toInt + 3 ≤ ((σ.1 3)).toInt)) := hw
                refine lv_if_ne (tgt := 164) hx hb dX12_isOwnHere_150 (by decide) (fun c_19 => ?_) (fun c_19 => ?_)
                · have kc_19 : r_17.toInt ≠ 0 := by have h9 := c_19; simp only [ge_iff_le, gt_iff_lt, x_lt, x_le, x_eq, ne_eq, Int32.not_lt, Int32.not_le] at h9; simp only [Int32.reduceToInt] at h9; omega
                  have hP : va_P D vwCl (mwd y ad zw (sI σ 2 n_18)) H := hP
                  have hD : va_D A (mwd y ad zw (sI σ 2 n_18)) := hD
                  exact cut164 n_18 H locs ls (by omega) (by omega) hP hD hS (lv_sub hl [1] rfl)
                · have kc_19 : r_17.toInt = 0 := by have h9 := c_19; simp only [ge_iff_le, gt_iff_lt, x_lt, x_le, x_eq, ne_eq, Int32.not_lt, Int32.not_le] at h9; simp only [Int32.reduceToInt] at h9; omega
                  refine lv_aload_n hx hb dX12_isOwnHere_153 rfl (lv_at hl 1 rfl) ?_
                  refine lv_aload_n hx hb dX12_isOwnHere_154 rfl (lv_at hl 1 rfl) ?_
                  refine va_get (D := D) (ci := 11) (v := .ref (ad 22)) (C := RX12) (T := TX12) (N := 85) hx hb hts inX12 hown hK hP 0 mwd_o0 rfl 22 (by decide) fl57 (fun _ h9 => h9) rfl dX12_isOwnHere_155 ?_
                  refine x_calliW (va_runV (As := [.ref (ad 22)]) (rest := []) ⟨hx, hb, hml, hown, hts⟩ (q_isHere l D y H.size ad zw (sI (sI (sI (sI (sI (sI (sI σ 2 a) 2 n_3) 2 n_6) 2 n_9) 2 n_12) 2 n_15) 2 n_18) (ad 22) 3 15 (zw 22) (fun _ => rfl) (by decide) (by decide) (show 0 ≤ (n_18).toInt from by first | omega | decide) (show (n_18).toInt ≤ ((σ.1 3)).toInt from by first | omega | decide) (show ((σ.1 3)).toInt ≤ 700 from by first | omega | decide)) (cwV 1 hts g_q_isOwnHere_0 rfl rfl rfl (by decide +kernel) ⟨Nat.le_of_ble_eq_true rfl, Nat.le_of_ble_eq_true rfl⟩) (x_preV (q := (RX12, TX12, 85)) hK hP hD (ci := 11) (q0 := 0) rfl mwd_o0) rfl rfl hl.1 rfl (lv_room (Nat.le_of_ble_eq_true rfl)) dX12_isOwnHere_158 ⟨Nat.le_of_ble_eq_true rfl, Nat.le_of_ble_eq_true rfl⟩) hP hD hS hA (fun r_20 u H locs hw hP hD hS => ?_)
                  obtain ⟨n_21, rfl⟩ : ∃ z9, z9 = u := ⟨_, rfl⟩
                  try dsimp only at hw
                  have hP : va_P D vwCl (mwd y ad zw (sI (sI (sI (sI (sI (sI (sI (sI σ 2 a) 2 n_3) 2 n_6) 2 n_9) 2 n_12) 2 n_15) 2 n_18) 2 n_21)) H := hP
                  have hD : va_D A (mwd y ad zw (sI (sI (sI (sI (sI (sI (sI (sI σ 2 a) 2 n_3) 2 n_6) 2 n_9) 2 n_12) 2 n_15) 2 n_18) 2 n_21)) := hD
                  have hw : (n_18).toInt ≤ n_21.toInt ∧ n_21.toInt ≤ ((σ.1 3)).toInt ∧ (r_20.toInt = 0 ∨ (r_20.toInt = 1 ∧ ((σ.1 5)).toInt = 0 ∧ n_21.toInt + 3 ≤ ((σ.1 3)).toInt)) := hw
                  refine lv_if_eq (tgt := 168) hx hb dX12_isOwnHere_161 (by decide) (fun c_22 => ?_) (fun c_22 => ?_)
                  · have kc_22 : r_20.toInt = 0 := by have h9 := c_22; simp only [ge_iff_le, gt_iff_lt, x_lt, x_le, x_eq, ne_eq, Int32.not_lt, Int32.not_le] at h9; simp only [Int32.reduceToInt] at h9; omega
                    refine lv_iconst (v := 0) hx hb dX12_isOwnHere_168 (by decide) ?_
                    have hP : va_P D vwCl (mwd y ad zw (sI σ 2 n_21)) H := hP
                    have hD : va_D A (mwd y ad zw (sI σ 2 n_21)) := hD
                    exact x_zretW (v := 0) (u := n_21) hx hb hr hQ rfl ⟨by omega, by omega⟩ hP hD hK hS dX12_isOwnHere_169 hlocks
                  · have kc_22 : r_20.toInt ≠ 0 := by have h9 := c_22; simp only [ge_iff_le, gt_iff_lt, x_lt, x_le, x_eq, ne_eq, Int32.not_lt, Int32.not_le] at h9; simp only [Int32.reduceToInt] at h9; omega
                    have hP : va_P D vwCl (mwd y ad zw (sI σ 2 n_21)) H := hP
                    have hD : va_D A (mwd y ad zw (sI σ 2 n_21)) := hD
                    exact cut164 n_21 H locs ls (by omega) (by omega) hP hD hS (lv_sub hl [1] rfl)
  refine lv_aload_n hx hb dX12_isOwnHere_0 rfl (lv_at hl 0 rfl) ?_
  refine lv_aload_n hx hb dX12_isOwnHere_1 rfl (lv_at hl 0 rfl) ?_
  refine va_get (D := D) (ci := 11) (v := .ref (ad 9)) (C := RX12) (T := TX12) (N := 85) hx hb hts inX12 hown hK hP 0 mwd_o0 rfl 9 (by decide) fl17 (fun _ h9 => h9) rfl dX12_isOwnHere_2 ?_
  refine x_calliW (va_runV (As := [.ref (ad 9)]) (rest := []) ⟨hx, hb, hml, hown, hts⟩ (q_isHere l D y H.size ad zw σ (ad 9) 5 2 (zw 9) (fun _ => rfl) (by decide) (by decide) (show 0 ≤ ((σ.1 2)).toInt from by first | omega | decide) (show ((σ.1 2)).toInt ≤ ((σ.1 3)).toInt from by first | omega | decide) (show ((σ.1 3)).toInt ≤ 700 from by first | omega | decide)) (cwV 1 hts g_q_isOwnHere_0 rfl rfl rfl (by decide +kernel) ⟨Nat.le_of_ble_eq_true rfl, Nat.le_of_ble_eq_true rfl⟩) (x_preV (q := (RX12, TX12, 85)) hK hP hD (ci := 11) (q0 := 0) rfl mwd_o0) rfl rfl hl.1 rfl (lv_room (Nat.le_of_ble_eq_true rfl)) dX12_isOwnHere_5 ⟨Nat.le_of_ble_eq_true rfl, Nat.le_of_ble_eq_true rfl⟩) hP hD hS hA (fun r_23 u H locs hw hP hD hS => ?_)
  obtain ⟨n_24, rfl⟩ : ∃ z9, z9 = u := ⟨_, rfl⟩
  try dsimp only at hw
  have hP : va_P D vwCl (mwd y ad zw (sI σ 2 n_24)) H := hP
  have hD : va_D A (mwd y ad zw (sI σ 2 n_24)) := hD
  have hw : ((σ.1 2)).toInt ≤ n_24.toInt ∧ n_24.toInt ≤ ((σ.1 3)).toInt ∧ (r_23.toInt = 0 ∨ (r_23.toInt = 1 ∧ ((σ.1 5)).toInt = 0 ∧ n_24.toInt + 5 ≤ ((σ.1 3)).toInt)) := hw
  refine lv_if_ne (tgt := 77) hx hb dX12_isOwnHere_8 (by decide) (fun c_25 => ?_) (fun c_25 => ?_)
  · have kc_25 : r_23.toInt ≠ 0 := by have h9 := c_25; simp only [ge_iff_le, gt_iff_lt, x_lt, x_le, x_eq, ne_eq, Int32.not_lt, Int32.not_le] at h9; simp only [Int32.reduceToInt] at h9; omega
    refine lv_iconst (v := 1) hx hb dX12_isOwnHere_77 (by decide) ?_
    refine lv_goto (tgt := 82) hx hb dX12_isOwnHere_78 (by decide) ?_
    refine lv_istore_n (lv' := [(1, .int 1), (0, .ref (ad 1))]) hx hb dX12_isOwnHere_82 rfl hl (by decide) rfl (fun ls hl => ?_)
    exact cut83 n_24 1 H locs ls (by omega) (by omega) hP hD hS (lv_sub hl [0, 1] rfl)
  · have kc_25 : r_23.toInt = 0 := by have h9 := c_25; simp only [ge_iff_le, gt_iff_lt, x_lt, x_le, x_eq, ne_eq, Int32.not_lt, Int32.not_le] at h9; simp only [Int32.reduceToInt] at h9; omega
    refine lv_aload_n hx hb dX12_isOwnHere_11 rfl (lv_at hl 0 rfl) ?_
    refine lv_aload_n hx hb dX12_isOwnHere_12 rfl (lv_at hl 0 rfl) ?_
    refine va_get (D := D) (ci := 11) (v := .ref (ad 10)) (C := RX12) (T := TX12) (N := 85) hx hb hts inX12 hown hK hP 0 mwd_o0 rfl 10 (by decide) fl21 (fun _ h9 => h9) rfl dX12_isOwnHere_13 ?_
    refine x_calliW (va_runV (As := [.ref (ad 10)]) (rest := []) ⟨hx, hb, hml, hown, hts⟩ (q_isHere l D y H.size ad zw (sI σ 2 n_24) (ad 10) 3 3 (zw 10) (fun _ => rfl) (by decide) (by decide) (show 0 ≤ (n_24).toInt from by first | omega | decide) (show (n_24).toInt ≤ ((σ.1 3)).toInt from by first | omega | decide) (show ((σ.1 3)).toInt ≤ 700 from by first | omega | decide)) (cwV 1 hts g_q_isOwnHere_0 rfl rfl rfl (by decide +kernel) ⟨Nat.le_of_ble_eq_true rfl, Nat.le_of_ble_eq_true rfl⟩) (x_preV (q := (RX12, TX12, 85)) hK hP hD (ci := 11) (q0 := 0) rfl mwd_o0) rfl rfl hl.1 rfl (lv_room (Nat.le_of_ble_eq_true rfl)) dX12_isOwnHere_16 ⟨Nat.le_of_ble_eq_true rfl, Nat.le_of_ble_eq_true rfl⟩) hP hD hS hA (fun r_26 u H locs hw hP hD hS => ?_)
    obtain ⟨n_27, rfl⟩ : ∃ z9, z9 = u := ⟨_, rfl⟩
    try dsimp only at hw
    have hP : va_P D vwCl (mwd y ad zw (sI (sI σ 2 n_24) 2 n_27)) H := hP
    have hD : va_D A (mwd y ad zw (sI (sI σ 2 n_24) 2 n_27)) := hD
    have hw : (n_24).toInt ≤ n_27.toInt ∧ n_27.toInt ≤ ((σ.1 3)).toInt ∧ (r_26.toInt = 0 ∨ (r_26.toInt = 1 ∧ ((σ.1 5)).toInt = 0 ∧ n_27.toInt + 3 ≤ ((σ.1 3)).toInt)) := hw
    refine lv_if_ne (tgt := 77) hx hb dX12_isOwnHere_19 (by decide) (fun c_28 => ?_) (fun c_28 => ?_)
    · have kc_28 : r_26.toInt ≠ 0 := by have h9 := c_28; simp only [ge_iff_le, gt_iff_lt, x_lt, x_le, x_eq, ne_eq, Int32.not_lt, Int32.not_le] at h9; simp only [Int32.reduceToInt] at h9; omega
      refine lv_iconst (v := 1) hx hb dX12_isOwnHere_77 (by decide) ?_
      refine lv_goto (tgt := 82) hx hb dX12_isOwnHere_78 (by decide) ?_
      refine lv_istore_n (lv' := [(1, .int 1), (0, .ref (ad 1))]) hx hb dX12_isOwnHere_82 rfl hl (by decide) rfl (fun ls hl => ?_)
      have hP : va_P D vwCl (mwd y ad zw (sI σ 2 n_27)) H := hP
      have hD : va_D A (mwd y ad zw (sI σ 2 n_27)) := hD
      exact cut83 n_27 1 H locs ls (by omega) (by omega) hP hD hS (lv_sub hl [0, 1] rfl)
    · have kc_28 : r_26.toInt = 0 := by have h9 := c_28; simp only [ge_iff_le, gt_iff_lt, x_lt, x_le, x_eq, ne_eq, Int32.not_lt, Int32.not_le] at h9; simp only [Int32.reduceToInt] at h9; omega
      refine lv_aload_n hx hb dX12_isOwnHere_22 rfl (lv_at hl 0 rfl) ?_
      refine lv_aload_n hx hb dX12_isOwnHere_23 rfl (lv_at hl 0 rfl) ?_
      refine va_get (D := D) (ci := 11) (v := .ref (ad 11)) (C := RX12) (T := TX12) (N := 85) hx hb hts inX12 hown hK hP 0 mwd_o0 rfl 11 (by decide) fl24 (fun _ h9 => h9) rfl dX12_isOwnHere_24 ?_
      refine x_calliW (va_runV (As := [.ref (ad 11)]) (rest := []) ⟨hx, hb, hml, hown, hts⟩ (q_isHere l D y H.size ad zw (sI (sI σ 2 n_24) 2 n_27) (ad 11) 3 4 (zw 11) (fun _ => rfl) (by decide) (by decide) (show 0 ≤ (n_27).toInt from by first | omega | decide) (show (n_27).toInt ≤ ((σ.1 3)).toInt from by first | omega | decide) (show ((σ.1 3)).toInt ≤ 700 from by first | omega | decide)) (cwV 1 hts g_q_isOwnHere_0 rfl rfl rfl (by decide +kernel) ⟨Nat.le_of_ble_eq_true rfl, Nat.le_of_ble_eq_true rfl⟩) (x_preV (q := (RX12, TX12, 85)) hK hP hD (ci := 11) (q0 := 0) rfl mwd_o0) rfl rfl hl.1 rfl (lv_room (Nat.le_of_ble_eq_true rfl)) dX12_isOwnHere_27 ⟨Nat.le_of_ble_eq_true rfl, Nat.le_of_ble_eq_true rfl⟩) hP hD hS hA (fun r_29 u H locs hw hP hD hS => ?_)
      obtain ⟨n_30, rfl⟩ : ∃ z9, z9 = u := ⟨_, rfl⟩
      try dsimp only at hw
      have hP : va_P D vwCl (mwd y ad zw (sI (sI (sI σ 2 n_24) 2 n_27) 2 n_30)) H := hP
      have hD : va_D A (mwd y ad zw (sI (sI (sI σ 2 n_24) 2 n_27) 2 n_30)) := hD
      have hw : (n_27).toInt ≤ n_30.toInt ∧ n_30.toInt ≤ ((σ.1 3)).toInt ∧ (r_29.toInt = 0 ∨ (r_29.toInt = 1 ∧ ((σ.1 5)).toInt = 0 ∧ n_30.toInt + 3 ≤ ((σ.1 3)).toInt)) := hw
      refine lv_if_ne (tgt := 77) hx hb dX12_isOwnHere_30 (by decide) (fun c_31 => ?_) (fun c_31 => ?_)
      · have kc_31 : r_29.toInt ≠ 0 := by have h9 := c_31; simp only [ge_iff_le, gt_iff_lt, x_lt, x_le, x_eq, ne_eq, Int32.not_lt, Int32.not_le] at h9; simp only [Int32.reduceToInt] at h9; omega
        refine lv_iconst (v := 1) hx hb dX12_isOwnHere_77 (by decide) ?_
        refine lv_goto (tgt := 82) hx hb dX12_isOwnHere_78 (by decide) ?_
        refine lv_istore_n (lv' := [(1, .int 1), (0, .ref (ad 1))]) hx hb dX12_isOwnHere_82 rfl hl (by decide) rfl (fun ls hl => ?_)
        have hP : va_P D vwCl (mwd y ad zw (sI σ 2 n_30)) H := hP
        have hD : va_D A (mwd y ad zw (sI σ 2 n_30)) := hD
        exact cut83 n_30 1 H locs ls (by omega) (by omega) hP hD hS (lv_sub hl [0, 1] rfl)
      · have kc_31 : r_29.toInt = 0 := by have h9 := c_31; simp only [ge_iff_le, gt_iff_lt, x_lt, x_le, x_eq, ne_eq, Int32.not_lt, Int32.not_le] at h9; simp only [Int32.reduceToInt] at h9; omega
        refine lv_aload_n hx hb dX12_isOwnHere_33 rfl (lv_at hl 0 rfl) ?_
        refine lv_aload_n hx hb dX12_isOwnHere_34 rfl (lv_at hl 0 rfl) ?_
        refine va_get (D := D) (ci := 11) (v := .ref (ad 12)) (C := RX12) (T := TX12) (N := 85) hx hb hts inX12 hown hK hP 0 mwd_o0 rfl 12 (by decide) fl27 (fun _ h9 => h9) rfl dX12_isOwnHere_35 ?_
        refine x_calliW (va_runV (As := [.ref (ad 12)]) (rest := []) ⟨hx, hb, hml, hown, hts⟩ (q_isHere l D y H.size ad zw (sI (sI (sI σ 2 n_24) 2 n_27) 2 n_30) (ad 12) 3 5 (zw 12) (fun _ => rfl) (by decide) (by decide) (show 0 ≤ (n_30).toInt from by first | omega | decide) (show (n_30).toInt ≤ ((σ.1 3)).toInt from by first | omega | decide) (show ((σ.1 3)).toInt ≤ 700 from by first | omega | decide)) (cwV 1 hts g_q_isOwnHere_0 rfl rfl rfl (by decide +kernel) ⟨Nat.le_of_ble_eq_true rfl, Nat.le_of_ble_eq_true rfl⟩) (x_preV (q := (RX12, TX12, 85)) hK hP hD (ci := 11) (q0 := 0) rfl mwd_o0) rfl rfl hl.1 rfl (lv_room (Nat.le_of_ble_eq_true rfl)) dX12_isOwnHere_38 ⟨Nat.le_of_ble_eq_true rfl, Nat.le_of_ble_eq_true rfl⟩) hP hD hS hA (fun r_32 u H locs hw hP hD hS => ?_)
        obtain ⟨n_33, rfl⟩ : ∃ z9, z9 = u := ⟨_, rfl⟩
        try dsimp only at hw
        have hP : va_P D vwCl (mwd y ad zw (sI (sI (sI (sI σ 2 n_24) 2 n_27) 2 n_30) 2 n_33)) H := hP
        have hD : va_D A (mwd y ad zw (sI (sI (sI (sI σ 2 n_24) 2 n_27) 2 n_30) 2 n_33)) := hD
        have hw : (n_30).toInt ≤ n_33.toInt ∧ n_33.toInt ≤ ((σ.1 3)).toInt ∧ (r_32.toInt = 0 ∨ (r_32.toInt = 1 ∧ ((σ.1 5)).toInt = 0 ∧ n_33.toInt + 3 ≤ ((σ.1 3)).toInt)) := hw
        refine lv_if_ne (tgt := 77) hx hb dX12_isOwnHere_41 (by decide) (fun c_34 => ?_) (fun c_34 => ?_)
        · have kc_34 : r_32.toInt ≠ 0 := by have h9 := c_34; simp only [ge_iff_le, gt_iff_lt, x_lt, x_le, x_eq, ne_eq, Int32.not_lt, Int32.not_le] at h9; simp only [Int32.reduceToInt] at h9; omega
          refine lv_iconst (v := 1) hx hb dX12_isOwnHere_77 (by decide) ?_
          refine lv_goto (tgt := 82) hx hb dX12_isOwnHere_78 (by decide) ?_
          refine lv_istore_n (lv' := [(1, .int 1), (0, .ref (ad 1))]) hx hb dX12_isOwnHere_82 rfl hl (by decide) rfl (fun ls hl => ?_)
          have hP : va_P D vwCl (mwd y ad zw (sI σ 2 n_33)) H := hP
          have hD : va_D A (mwd y ad zw (sI σ 2 n_33)) := hD
          exact cut83 n_33 1 H locs ls (by omega) (by omega) hP hD hS (lv_sub hl [0, 1] rfl)
        · have kc_34 : r_32.toInt = 0 := by have h9 := c_34; simp only [ge_iff_le, gt_iff_lt, x_lt, x_le, x_eq, ne_eq, Int32.not_lt, Int32.not_le] at h9; simp only [Int32.reduceToInt] at h9; omega
          refine lv_aload_n hx hb dX12_isOwnHere_44 rfl (lv_at hl 0 rfl) ?_
          refine lv_aload_n hx hb dX12_isOwnHere_45 rfl (lv_at hl 0 rfl) ?_
          refine va_get (D := D) (ci := 11) (v := .ref (ad 13)) (C := RX12) (T := TX12) (N := 85) hx hb hts inX12 hown hK hP 0 mwd_o0 rfl 13 (by decide) fl30 (fun _ h9 => h9) rfl dX12_isOwnHere_46 ?_
          refine x_calliW (va_runV (As := [.ref (ad 13)]) (rest := []) ⟨hx, hb, hml, hown, hts⟩ (q_isHere l D y H.size ad zw (sI (sI (sI (sI σ 2 n_24) 2 n_27) 2 n_30) 2 n_33) (ad 13) 4 6 (zw 13) (fun _ => rfl) (by decide) (by decide) (show 0 ≤ (n_33).toInt from by first | omega | decide) (show (n_33).toInt ≤ ((σ.1 3)).toInt from by first | omega | decide) (show ((σ.1 3)).toInt ≤ 700 from by first | omega | decide)) (cwV 1 hts g_q_isOwnHere_0 rfl rfl rfl (by decide +kernel) ⟨Nat.le_of_ble_eq_true rfl, Nat.le_of_ble_eq_true rfl⟩) (x_preV (q := (RX12, TX12, 85)) hK hP hD (ci := 11) (q0 := 0) rfl mwd_o0) rfl rfl hl.1 rfl (lv_room (Nat.le_of_ble_eq_true rfl)) dX12_isOwnHere_49 ⟨Nat.le_of_ble_eq_true rfl, Nat.le_of_ble_eq_true rfl⟩) hP hD hS hA (fun r_35 u H locs hw hP hD hS => ?_)
          obtain ⟨n_36, rfl⟩ : ∃ z9, z9 = u := ⟨_, rfl⟩
          try dsimp only at hw
          have hP : va_P D vwCl (mwd y ad zw (sI (sI (sI (sI (sI σ 2 n_24) 2 n_27) 2 n_30) 2 n_33) 2 n_36)) H := hP
          have hD : va_D A (mwd y ad zw (sI (sI (sI (sI (sI σ 2 n_24) 2 n_27) 2 n_30) 2 n_33) 2 n_36)) := hD
          have hw : (n_33).toInt ≤ n_36.toInt ∧ n_36.toInt ≤ ((σ.1 3)).toInt ∧ (r_35.toInt = 0 ∨ (r_35.toInt = 1 ∧ ((σ.1 5)).toInt = 0 ∧ n_36.toInt + 4 ≤ ((σ.1 3)).toInt)) := hw
          refine lv_if_ne (tgt := 77) hx hb dX12_isOwnHere_52 (by decide) (fun c_37 => ?_) (fun c_37 => ?_)
          · have kc_37 : r_35.toInt ≠ 0 := by have h9 := c_37; simp only [ge_iff_le, gt_iff_lt, x_lt, x_le, x_eq, ne_eq, Int32.not_lt, Int32.not_le] at h9; simp only [Int32.reduceToInt] at h9; omega
            refine lv_iconst (v := 1) hx hb dX12_isOwnHere_77 (by decide) ?_
            refine lv_goto (tgt := 82) hx hb dX12_isOwnHere_78 (by decide) ?_
            refine lv_istore_n (lv' := [(1, .int 1), (0, .ref (ad 1))]) hx hb dX12_isOwnHere_82 rfl hl (by decide) rfl (fun ls hl => ?_)
            have hP : va_P D vwCl (mwd y ad zw (sI σ 2 n_36)) H := hP
            have hD : va_D A (mwd y ad zw (sI σ 2 n_36)) := hD
            exact cut83 n_36 1 H locs ls (by omega) (by omega) hP hD hS (lv_sub hl [0, 1] rfl)
          · have kc_37 : r_35.toInt = 0 := by have h9 := c_37; simp only [ge_iff_le, gt_iff_lt, x_lt, x_le, x_eq, ne_eq, Int32.not_lt, Int32.not_le] at h9; simp only [Int32.reduceToInt] at h9; omega
            refine lv_aload_n hx hb dX12_isOwnHere_55 rfl (lv_at hl 0 rfl) ?_
            refine lv_aload_n hx hb dX12_isOwnHere_56 rfl (lv_at hl 0 rfl) ?_
            refine va_get (D := D) (ci := 11) (v := .ref (ad 14)) (C := RX12) (T := TX12) (N := 85) hx hb hts inX12 hown hK hP 0 mwd_o0 rfl 14 (by decide) fl33 (fun _ h9 => h9) rfl dX12_isOwnHere_57 ?_
            refine x_calliW (va_runV (As := [.ref (ad 14)]) (rest := []) ⟨hx, hb, hml, hown, hts⟩ (q_isHere l D y H.size ad zw (sI (sI (sI (sI (sI σ 2 n_24) 2 n_27) 2 n_30) 2 n_33) 2 n_36) (ad 14) 2 7 (zw 14) (fun _ => rfl) (by decide) (by decide) (show 0 ≤ (n_36).toInt from by first | omega | decide) (show (n_36).toInt ≤ ((σ.1 3)).toInt from by first | omega | decide) (show ((σ.1 3)).toInt ≤ 700 from by first | omega | decide)) (cwV 1 hts g_q_isOwnHere_0 rfl rfl rfl (by decide +kernel) ⟨Nat.le_of_ble_eq_true rfl, Nat.le_of_ble_eq_true rfl⟩) (x_preV (q := (RX12, TX12, 85)) hK hP hD (ci := 11) (q0 := 0) rfl mwd_o0) rfl rfl hl.1 rfl (lv_room (Nat.le_of_ble_eq_true rfl)) dX12_isOwnHere_60 ⟨Nat.le_of_ble_eq_true rfl, Nat.le_of_ble_eq_true rfl⟩) hP hD hS hA (fun r_38 u H locs hw hP hD hS => ?_)
            obtain ⟨n_39, rfl⟩ : ∃ z9, z9 = u := ⟨_, rfl⟩
            try dsimp only at hw
            have hP : va_P D vwCl (mwd y ad zw (sI (sI (sI (sI (sI (sI σ 2 n_24) 2 n_27) 2 n_30) 2 n_33) 2 n_36) 2 n_39)) H := hP
            have hD : va_D A (mwd y ad zw (sI (sI (sI (sI (sI (sI σ 2 n_24) 2 n_27) 2 n_30) 2 n_33) 2 n_36) 2 n_39)) := hD
            have hw : (n_36).toInt ≤ n_39.toInt ∧ n_39.toInt ≤ ((σ.1 3)).toInt ∧ (r_38.toInt = 0 ∨ (r_38.toInt = 1 ∧ ((σ.1 5)).toInt = 0 ∧ n_39.toInt + 2 ≤ ((σ.1 3)).toInt)) := hw
            refine lv_if_ne (tgt := 77) hx hb dX12_isOwnHere_63 (by decide) (fun c_40 => ?_) (fun c_40 => ?_)
            · have kc_40 : r_38.toInt ≠ 0 := by have h9 := c_40; simp only [ge_iff_le, gt_iff_lt, x_lt, x_le, x_eq, ne_eq, Int32.not_lt, Int32.not_le] at h9; simp only [Int32.reduceToInt] at h9; omega
              refine lv_iconst (v := 1) hx hb dX12_isOwnHere_77 (by decide) ?_
              refine lv_goto (tgt := 82) hx hb dX12_isOwnHere_78 (by decide) ?_
              refine lv_istore_n (lv' := [(1, .int 1), (0, .ref (ad 1))]) hx hb dX12_isOwnHere_82 rfl hl (by decide) rfl (fun ls hl => ?_)
              have hP : va_P D vwCl (mwd y ad zw (sI σ 2 n_39)) H := hP
              have hD : va_D A (mwd y ad zw (sI σ 2 n_39)) := hD
              exact cut83 n_39 1 H locs ls (by omega) (by omega) hP hD hS (lv_sub hl [0, 1] rfl)
            · have kc_40 : r_38.toInt = 0 := by have h9 := c_40; simp only [ge_iff_le, gt_iff_lt, x_lt, x_le, x_eq, ne_eq, Int32.not_lt, Int32.not_le] at h9; simp only [Int32.reduceToInt] at h9; omega
              refine lv_aload_n hx hb dX12_isOwnHere_66 rfl (lv_at hl 0 rfl) ?_
              refine lv_aload_n hx hb dX12_isOwnHere_67 rfl (lv_at hl 0 rfl) ?_
              refine va_get (D := D) (ci := 11) (v := .ref (ad 15)) (C := RX12) (T := TX12) (N := 85) hx hb hts inX12 hown hK hP 0 mwd_o0 rfl 15 (by decide) fl36 (fun _ h9 => h9) rfl dX12_isOwnHere_68 ?_
              refine x_calliW (va_runV (As := [.ref (ad 15)]) (rest := []) ⟨hx, hb, hml, hown, hts⟩ (q_isHere l D y H.size ad zw (sI (sI (sI (sI (sI (sI σ 2 n_24) 2 n_27) 2 n_30) 2 n_33) 2 n_36) 2 n_39) (ad 15) 4 8 (zw 15) (fun _ => rfl) (by decide) (by decide) (show 0 ≤ (n_39).toInt from by first | omega | decide) (show (n_39).toInt ≤ ((σ.1 3)).toInt from by first | omega | decide) (show ((σ.1 3)).toInt ≤ 700 from by first | omega | decide)) (cwV 1 hts g_q_isOwnHere_0 rfl rfl rfl (by decide +kernel) ⟨Nat.le_of_ble_eq_true rfl, Nat.le_of_ble_eq_true rfl⟩) (x_preV (q := (RX12, TX12, 85)) hK hP hD (ci := 11) (q0 := 0) rfl mwd_o0) rfl rfl hl.1 rfl (lv_room (Nat.le_of_ble_eq_true rfl)) dX12_isOwnHere_71 ⟨Nat.le_of_ble_eq_true rfl, Nat.le_of_ble_eq_true rfl⟩) hP hD hS hA (fun r_41 u H locs hw hP hD hS => ?_)
              obtain ⟨n_42, rfl⟩ : ∃ z9, z9 = u := ⟨_, rfl⟩
              try dsimp only at hw
              have hP : va_P D vwCl (mwd y ad zw (sI (sI (sI (sI (sI (sI (sI σ 2 n_24) 2 n_27) 2 n_30) 2 n_33) 2 n_36) 2 n_39) 2 n_42)) H := hP
              have hD : va_D A (mwd y ad zw (sI (sI (sI (sI (sI (sI (sI σ 2 n_24) 2 n_27) 2 n_30) 2 n_33) 2 n_36) 2 n_39) 2 n_42)) := hD
              have hw : (n_39).toInt ≤ n_42.toInt ∧ n_42.toInt ≤ ((σ.1 3)).toInt ∧ (r_41.toInt = 0 ∨ (r_41.toInt = 1 ∧ ((σ.1 5)).toInt = 0 ∧ n_42.toInt + 4 ≤ ((σ.1 3)).toInt)) := hw
              refine lv_if_eq (tgt := 81) hx hb dX12_isOwnHere_74 (by decide) (fun c_43 => ?_) (fun c_43 => ?_)
              · have kc_43 : r_41.toInt = 0 := by have h9 := c_43; simp only [ge_iff_le, gt_iff_lt, x_lt, x_le, x_eq, ne_eq, Int32.not_lt, Int32.not_le] at h9; simp only [Int32.reduceToInt] at h9; omega
                refine lv_iconst (v := 0) hx hb dX12_isOwnHere_81 (by decide) ?_
                refine lv_istore_n (lv' := [(1, .int 0), (0, .ref (ad 1))]) hx hb dX12_isOwnHere_82 rfl hl (by decide) rfl (fun ls hl => ?_)
                have hP : va_P D vwCl (mwd y ad zw (sI σ 2 n_42)) H := hP
                have hD : va_D A (mwd y ad zw (sI σ 2 n_42)) := hD
                exact cut83 n_42 0 H locs ls (by omega) (by omega) hP hD hS (lv_sub hl [0, 1] rfl)
              · have kc_43 : r_41.toInt ≠ 0 := by have h9 := c_43; simp only [ge_iff_le, gt_iff_lt, x_lt, x_le, x_eq, ne_eq, Int32.not_lt, Int32.not_le] at h9; simp only [Int32.reduceToInt] at h9; omega
                refine lv_iconst (v := 1) hx hb dX12_isOwnHere_77 (by decide) ?_
                refine lv_goto (tgt := 82) hx hb dX12_isOwnHere_78 (by decide) ?_
                refine lv_istore_n (lv' := [(1, .int 1), (0, .ref (ad 1))]) hx hb dX12_isOwnHere_82 rfl hl (by decide) rfl (fun ls hl => ?_)
                have hP : va_P D vwCl (mwd y ad zw (sI σ 2 n_42)) H := hP
                have hD : va_D A (mwd y ad zw (sI σ 2 n_42)) := hD
                exact cut83 n_42 1 H locs ls (by omega) (by omega) hP hD hS (lv_sub hl [0, 1] rfl)

def v_q_name : List Cond := .code yX12_name cX12_name 3 (some .long) :: ([.fieldLink RX12 191 "SlopeRunnerModel" "bad" "I", .fieldLink RX12 197 "SlopeRunnerModel" "at" "I", .fieldLink RX12 211 "SlopeRunnerModel" "ended" "I", .fieldLink RX12 239 "SlopeRunnerModel" "namePlace" "I", .fieldLink RX12 200 "SlopeRunnerModel" "end" "I", .fieldLink RX12 7 "SlopeRunnerModel" "tape" "[I", .constantLong RX12 242 27, .constantLong RX12 244 97] ++ ((wsV RX12 203 RX12 yX12_look v_q_look2) ++ ((wsS RX12 207 yX12_isLetter v_q_isLetter2) ++ ((wsV RX12 221 RX12 yX12_fail v_q_fail) ++ ((wsV RX12 235 RX12 yX12_isOwnHere v_q_isOwnHere) ++ wsX120)))))
theorem g_q_name_0 : GoodIn v_q_name (wsV RX12 203 RX12 yX12_look v_q_look2) := goodIn_sub (fun w h => List.mem_cons_of_mem _ (List.mem_append_right _ (List.mem_append_left _ h))) (by decide +kernel)
theorem g_q_name_1 : GoodIn v_q_name (wsS RX12 207 yX12_isLetter v_q_isLetter2) := goodIn_sub (fun w h => List.mem_cons_of_mem _ (List.mem_append_right _ (List.mem_append_right _ (List.mem_append_left _ h)))) (by decide +kernel)
theorem g_q_name_2 : GoodIn v_q_name (wsV RX12 221 RX12 yX12_fail v_q_fail) := goodIn_sub (fun w h => List.mem_cons_of_mem _ (List.mem_append_right _ (List.mem_append_right _ (List.mem_append_right _ (List.mem_append_left _ h))))) (by decide +kernel)
theorem g_q_name_3 : GoodIn v_q_name (wsV RX12 235 RX12 yX12_isOwnHere v_q_isOwnHere) := goodIn_sub (fun w h => List.mem_cons_of_mem _ (List.mem_append_right _ (List.mem_append_right _ (List.mem_append_right _ (List.mem_append_right _ (List.mem_append_left _ h)))))) (by decide +kernel)
set_option maxHeartbeats 4000000 in
set_option maxRecDepth 100000 in
theorem q_name (l : Launch) (D : va_G) (y : Nat → ClassId) (sz : Nat) (ad : Nat → Nat) (zw : Nat → Nat → Int32) (σ : OS) (ha0 : 0 ≤ (σ.1 2).toInt) (ha1 : (σ.1 2).toInt ≤ (σ.1 3).toInt) (ha2 : (σ.1 3).toInt ≤ 700) : Met l yX12_name v_q_name ({ frames := 3, cells := 0, slots := 0, locals := 64 } : Room) (va_Pc [.ref (ad 1)] (xPre D (xT y) (mwd y ad zw σ) sz)) (va_Ql (fun (r : Int64) (u : Int32 × Int32 × Int32 × Int32 × Int32) => (σ.1 2).toInt ≤ u.1.toInt ∧ u.1.toInt ≤ (σ.1 3).toInt ∧ (u.2.2.1.toInt = 0 → (σ.1 5).toInt = 0 ∧ (σ.1 2).toInt + 1 ≤ u.1.toInt)) (fun (u : Int32 × Int32 × Int32 × Int32 × Int32) => xB D (xT y) (va_A (mwd y ad zw σ) sz) (mwd y ad zw (sI (sI (sI (sI (sI σ 2 u.1) 4 u.2.1) 5 u.2.2.1) 6 u.2.2.2.1) 23 u.2.2.2.2))) (va_A (mwd y ad zw σ) sz)) 0 0 (va_A (mwd y ad zw σ) sz) := by
  refine x_metl (cc := cX12_name) (maxL := 3) (by decide) rfl (Nat.le_of_ble_eq_true rfl) ?_
  intro p e s m below meth c A H locs Q hx hb hml hown hts hr hlocks hmn hA hP hK hD hS ls hl hQ
  have hl : lv_has ls 3 [(0, .ref (ad 1))] := hl
  have fl191 := hts (.fieldLink RX12 191 "SlopeRunnerModel" "bad" "I") (List.mem_of_getElem? (i := 1) rfl)
  have inX12 : ∀ w ∈ wsX120, w ∈ v_q_name := (fun w h => List.mem_cons_of_mem _ (List.mem_append_right _ (List.mem_append_right _ (List.mem_append_right _ (List.mem_append_right _ (List.mem_append_right _ h))))))
  have kk_0 : (0 : Int32).toInt = 0 := rfl
  have fl197 := hts (.fieldLink RX12 197 "SlopeRunnerModel" "at" "I") (List.mem_of_getElem? (i := 2) rfl)
  have kk_1 : (1 : Int32).toInt = 1 := rfl
  have fl211 := hts (.fieldLink RX12 211 "SlopeRunnerModel" "ended" "I") (List.mem_of_getElem? (i := 3) rfl)
  have fl239 := hts (.fieldLink RX12 239 "SlopeRunnerModel" "namePlace" "I") (List.mem_of_getElem? (i := 4) rfl)
  have fl200 := hts (.fieldLink RX12 200 "SlopeRunnerModel" "end" "I") (List.mem_of_getElem? (i := 5) rfl)
  have fl7 := hts (.fieldLink RX12 7 "SlopeRunnerModel" "tape" "[I") (List.mem_of_getElem? (i := 6) rfl)
  have kk_6 : (6 : Int32).toInt = 6 := rfl
  refine lv_aload_n hx hb dX12_name_0 rfl (lv_at hl 0 rfl) ?_
  refine va_get (D := D) (ci := 11) (v := .int (σ.1 5)) (C := RX12) (T := TX12) (N := 85) hx hb hts inX12 hown hK hP 0 mwd_o0 rfl 5 (by decide) fl191 (fun _ h9 => h9) rfl dX12_name_1 ?_
  refine lv_if_eq (tgt := 9) hx hb dX12_name_4 (by decide) (fun c_1 => ?_) (fun c_1 => ?_)
  · have kc_1 : (σ.1 5).toInt = 0 := by have h9 := c_1; simp only [ge_iff_le, gt_iff_lt, x_lt, x_le, x_eq, ne_eq, Int32.not_lt, Int32.not_le] at h9; simp only [Int32.reduceToInt] at h9; omega
    refine lv_aload_n hx hb dX12_name_9 rfl (lv_at hl 0 rfl) ?_
    refine x_calliW (va_runV (As := []) (rest := []) ⟨hx, hb, hml, hown, hts⟩ (q_look2 l D y H.size ad zw σ (show 0 ≤ ((σ.1 2)).toInt from by first | omega | decide) (show ((σ.1 2)).toInt ≤ ((σ.1 3)).toInt from by first | omega | decide) (show ((σ.1 3)).toInt ≤ 700 from by first | omega | decide)) (cwV 0 hts g_q_name_0 rfl rfl rfl (by decide +kernel) ⟨Nat.le_of_ble_eq_true rfl, Nat.le_of_ble_eq_true rfl⟩) (x_preV (q := (RX12, TX12, 85)) hK hP hD (ci := 11) (q0 := 0) rfl mwd_o0) rfl rfl hl.1 rfl (lv_room (Nat.le_of_ble_eq_true rfl)) dX12_name_10 ⟨Nat.le_of_ble_eq_true rfl, Nat.le_of_ble_eq_true rfl⟩) hP hD hS hA (fun r_2 u H locs hw hP hD hS => ?_)
    obtain ⟨n_3, rfl⟩ : ∃ z9, z9 = u := ⟨_, rfl⟩
    try dsimp only at hw
    have hP : va_P D vwCl (mwd y ad zw (sI σ 2 n_3)) H := hP
    have hD : va_D A (mwd y ad zw (sI σ 2 n_3)) := hD
    have hw : ((σ.1 2)).toInt ≤ n_3.toInt ∧ n_3.toInt ≤ ((σ.1 3)).toInt ∧ (r_2.toInt = -1 ∨ (n_3.toInt < ((σ.1 3)).toInt ∧ r_2 = ((σ.2.2.1 0)) (Int32.toNatClampNeg n_3))) := hw
    have hlk := hw.2.2
    refine x_calliN (va_runS (As := [.int r_2]) (rest := []) ⟨hx, hb, hml, hown, hts⟩ (q_isLetter2 l D y H.size r_2) (cwS 1 hts g_q_name_1 rfl rfl rfl (by decide +kernel) ⟨Nat.le_of_ble_eq_true rfl, Nat.le_of_ble_eq_true rfl⟩) (x_preS hK (x_nilP D H) (x_nilD A)) rfl rfl hl.1 rfl (lv_room (Nat.le_of_ble_eq_true rfl)) dX12_name_13 ⟨Nat.le_of_ble_eq_true rfl, Nat.le_of_ble_eq_true rfl⟩) hP hD hS hA (fun r_4 u H locs hw hP hD hS => ?_)
    try dsimp only at hw
    refine lv_if_eq (tgt := 37) hx hb dX12_name_16 (by decide) (fun c_5 => ?_) (fun c_5 => ?_)
    · have kc_5 : r_4.toInt = 0 := by have h9 := c_5; simp only [ge_iff_le, gt_iff_lt, x_lt, x_le, x_eq, ne_eq, Int32.not_lt, Int32.not_le] at h9; simp only [Int32.reduceToInt] at h9; omega
      refine lv_aload_n hx hb dX12_name_37 rfl (lv_at hl 0 rfl) ?_
      refine lv_iconst (v := 1) hx hb dX12_name_38 (by decide) ?_
      refine lv_aload_n hx hb dX12_name_39 rfl (lv_at hl 0 rfl) ?_
      refine va_get (D := D) (ci := 11) (v := .int n_3) (C := RX12) (T := TX12) (N := 85) hx hb hts inX12 hown hK hP 0 mwd_o0 rfl 2 (by decide) fl197 (fun _ h9 => h9) rfl dX12_name_40 ?_
      refine x_callvW (va_runV (As := [.int 1, .int n_3]) (rest := []) ⟨hx, hb, hml, hown, hts⟩ (q_fail l D y H.size ad zw (sI σ 2 n_3) 1 n_3) (cwV 2 hts g_q_name_2 rfl rfl rfl (by decide +kernel) ⟨Nat.le_of_ble_eq_true rfl, Nat.le_of_ble_eq_true rfl⟩) (x_preV (q := (RX12, TX12, 85)) hK hP hD (ci := 11) (q0 := 0) rfl mwd_o0) rfl rfl hl.1 rfl (lv_room (Nat.le_of_ble_eq_true rfl)) dX12_name_43 ⟨Nat.le_of_ble_eq_true rfl, Nat.le_of_ble_eq_true rfl⟩) hP hD hS hA (fun u H locs hw hP hD hS => ?_)
      obtain ⟨b_6, b_7⟩ := u
      try dsimp only at hw
      have hP : va_P D vwCl (mwd y ad zw (sI (sI (sI σ 2 n_3) 5 b_6) 6 b_7)) H := hP
      have hD : va_D A (mwd y ad zw (sI (sI (sI σ 2 n_3) 5 b_6) 6 b_7)) := hD
      have hw : b_6 = if (σ.1 5) = 0 then (1 : Int32) else (σ.1 5) := hw
      have hbd : b_6.toInt ≠ 0 := by rw [hw]; split <;> first | decide | (rename_i h9; intro h8; exact h9 (Int32.toInt_inj.mp (by rw [h8]; rfl)))
      refine lv_lconst (v := 0) hx hb dX12_name_46 (by decide) ?_
      have hP : va_P D vwCl (mwd y ad zw (sI (sI (sI (sI (sI σ 2 n_3) 4 (σ.1 4)) 5 b_6) 6 b_7) 23 (σ.1 23))) H := hP
      have hD : va_D A (mwd y ad zw (sI (sI (sI (sI (sI σ 2 n_3) 4 (σ.1 4)) 5 b_6) 6 b_7) 23 (σ.1 23))) := hD
      exact x_lretW (v := 0) (u := (n_3, (σ.1 4), b_6, b_7, (σ.1 23))) hx hb hr hQ (by (try dsimp only); exact ⟨by omega, by omega, by omega⟩) hP hD hK hS dX12_name_47 hlocks
    · have kc_5 : r_4.toInt ≠ 0 := by have h9 := c_5; simp only [ge_iff_le, gt_iff_lt, x_lt, x_le, x_eq, ne_eq, Int32.not_lt, Int32.not_le] at h9; simp only [Int32.reduceToInt] at h9; omega
      refine lv_aload_n hx hb dX12_name_19 rfl (lv_at hl 0 rfl) ?_
      refine va_get (D := D) (ci := 11) (v := .int n_3) (C := RX12) (T := TX12) (N := 85) hx hb hts inX12 hown hK hP 0 mwd_o0 rfl 2 (by decide) fl197 (fun _ h9 => h9) rfl dX12_name_20 ?_
      refine lv_aload_n hx hb dX12_name_23 rfl (lv_at hl 0 rfl) ?_
      refine va_get (D := D) (ci := 11) (v := .int (σ.1 4)) (C := RX12) (T := TX12) (N := 85) hx hb hts inX12 hown hK hP 0 mwd_o0 rfl 4 (by decide) fl211 (fun _ h9 => h9) rfl dX12_name_24 ?_
      refine lv_icmp_eq (tgt := 37) hx hb dX12_name_27 (by decide) (fun c_8 => ?_) (fun c_8 => ?_)
      · have kc_8 : n_3.toInt = (σ.1 4).toInt := by have h9 := c_8; simp only [ge_iff_le, gt_iff_lt, x_lt, x_le, x_eq, ne_eq, Int32.not_lt, Int32.not_le] at h9; omega
        refine lv_aload_n hx hb dX12_name_37 rfl (lv_at hl 0 rfl) ?_
        refine lv_iconst (v := 1) hx hb dX12_name_38 (by decide) ?_
        refine lv_aload_n hx hb dX12_name_39 rfl (lv_at hl 0 rfl) ?_
        refine va_get (D := D) (ci := 11) (v := .int n_3) (C := RX12) (T := TX12) (N := 85) hx hb hts inX12 hown hK hP 0 mwd_o0 rfl 2 (by decide) fl197 (fun _ h9 => h9) rfl dX12_name_40 ?_
        refine x_callvW (va_runV (As := [.int 1, .int n_3]) (rest := []) ⟨hx, hb, hml, hown, hts⟩ (q_fail l D y H.size ad zw (sI σ 2 n_3) 1 n_3) (cwV 2 hts g_q_name_2 rfl rfl rfl (by decide +kernel) ⟨Nat.le_of_ble_eq_true rfl, Nat.le_of_ble_eq_true rfl⟩) (x_preV (q := (RX12, TX12, 85)) hK hP hD (ci := 11) (q0 := 0) rfl mwd_o0) rfl rfl hl.1 rfl (lv_room (Nat.le_of_ble_eq_true rfl)) dX12_name_43 ⟨Nat.le_of_ble_eq_true rfl, Nat.le_of_ble_eq_true rfl⟩) hP hD hS hA (fun u H locs hw hP hD hS => ?_)
        obtain ⟨b_9, b_10⟩ := u
        try dsimp only at hw
        have hP : va_P D vwCl (mwd y ad zw (sI (sI (sI σ 2 n_3) 5 b_9) 6 b_10)) H := hP
        have hD : va_D A (mwd y ad zw (sI (sI (sI σ 2 n_3) 5 b_9) 6 b_10)) := hD
        have hw : b_9 = if (σ.1 5) = 0 then (1 : Int32) else (σ.1 5) := hw
        have hbd : b_9.toInt ≠ 0 := by rw [hw]; split <;> first | decide | (rename_i h9; intro h8; exact h9 (Int32.toInt_inj.mp (by rw [h8]; rfl)))
        refine lv_lconst (v := 0) hx hb dX12_name_46 (by decide) ?_
        have hP : va_P D vwCl (mwd y ad zw (sI (sI (sI (sI (sI σ 2 n_3) 4 (σ.1 4)) 5 b_9) 6 b_10) 23 (σ.1 23))) H := hP
        have hD : va_D A (mwd y ad zw (sI (sI (sI (sI (sI σ 2 n_3) 4 (σ.1 4)) 5 b_9) 6 b_10) 23 (σ.1 23))) := hD
        exact x_lretW (v := 0) (u := (n_3, (σ.1 4), b_9, b_10, (σ.1 23))) hx hb hr hQ (by (try dsimp only); exact ⟨by omega, by omega, by omega⟩) hP hD hK hS dX12_name_47 hlocks
      · have kc_8 : n_3.toInt ≠ (σ.1 4).toInt := by have h9 := c_8; simp only [ge_iff_le, gt_iff_lt, x_lt, x_le, x_eq, ne_eq, Int32.not_lt, Int32.not_le] at h9; omega
        refine lv_aload_n hx hb dX12_name_30 rfl (lv_at hl 0 rfl) ?_
        refine x_calliW (va_runV (As := []) (rest := []) ⟨hx, hb, hml, hown, hts⟩ (q_isOwnHere l D y H.size ad zw (sI σ 2 n_3) (show 0 ≤ (n_3).toInt from by first | omega | decide) (show (n_3).toInt ≤ ((σ.1 3)).toInt from by first | omega | decide) (show ((σ.1 3)).toInt ≤ 700 from by first | omega | decide)) (cwV 0 hts g_q_name_3 rfl rfl rfl (by decide +kernel) ⟨Nat.le_of_ble_eq_true rfl, Nat.le_of_ble_eq_true rfl⟩) (x_preV (q := (RX12, TX12, 85)) hK hP hD (ci := 11) (q0 := 0) rfl mwd_o0) rfl rfl hl.1 rfl (lv_room (Nat.le_of_ble_eq_true rfl)) dX12_name_31 ⟨Nat.le_of_ble_eq_true rfl, Nat.le_of_ble_eq_true rfl⟩) hP hD hS hA (fun r_11 u H locs hw hP hD hS => ?_)
        obtain ⟨n_12, rfl⟩ : ∃ z9, z9 = u := ⟨_, rfl⟩
        try dsimp only at hw
        have hP : va_P D vwCl (mwd y ad zw (sI (sI σ 2 n_3) 2 n_12)) H := hP
        have hD : va_D A (mwd y ad zw (sI (sI σ 2 n_3) 2 n_12)) := hD
        have hw : (n_3).toInt ≤ n_12.toInt ∧ n_12.toInt ≤ ((σ.1 3)).toInt := hw
        refine lv_if_eq (tgt := 48) hx hb dX12_name_34 (by decide) (fun c_13 => ?_) (fun c_13 => ?_)
        · have kc_13 : r_11.toInt = 0 := by have h9 := c_13; simp only [ge_iff_le, gt_iff_lt, x_lt, x_le, x_eq, ne_eq, Int32.not_lt, Int32.not_le] at h9; simp only [Int32.reduceToInt] at h9; omega
          refine lv_aload_n hx hb dX12_name_48 rfl (lv_at hl 0 rfl) ?_
          refine lv_aload_n hx hb dX12_name_49 rfl (lv_at hl 0 rfl) ?_
          refine va_get (D := D) (ci := 11) (v := .int n_12) (C := RX12) (T := TX12) (N := 85) hx hb hts inX12 hown hK hP 0 mwd_o0 rfl 2 (by decide) fl197 (fun _ h9 => h9) rfl dX12_name_50 ?_
          refine va_put (D := D) (ci := 11) (v := .int n_12) (ty := .int) (C := RX12) (T := TX12) (N := 85) hx hb hts inX12 tyX12 tyX12_ok nmX12 hown hK hP hD hS 0 mwd_o0 rfl 23 (by decide) fl239 (fun _ h9 => h9) rfl (by decide +kernel) rfl rfl (Nat.le_of_ble_eq_true rfl) dX12_name_53 (fun H locs hP hD hS => ?_)
          have hP : va_P D vwCl (mwd y ad zw (sI (sI (sI σ 2 n_3) 2 n_12) 23 n_12)) H := x_trP hP mwd_p0_23
          have hD : va_D A (mwd y ad zw (sI (sI (sI σ 2 n_3) 2 n_12) 23 n_12)) := x_trD hD mwd_p0_23
          refine lv_lconst (v := 0) hx hb dX12_name_56 (by decide) ?_
          refine lv_lstore_n (lv' := [(1, .long 0), (0, .ref (ad 1))]) hx hb dX12_name_57 rfl hl (by decide) rfl (fun ls hl => ?_)
          have hdg : 97 ≤ ((σ.2.2.1 0) (Int32.toNatClampNeg n_3)).toInt ∧ ((σ.2.2.1 0) (Int32.toNatClampNeg n_3)).toInt ≤ 122 ∧ n_3.toInt < (σ.1 3).toInt := by rcases hlk with h9 | ⟨h8, h9⟩ <;> first | (exfalso; omega) | (rw [← h9]; omega)
          have hP : va_P D vwCl (mwd y ad zw (sI (sI σ 23 n_12) 2 n_12)) H := hP
          have hD : va_D A (mwd y ad zw (sI (sI σ 23 n_12) 2 n_12)) := hD
          have loop : ∀ (fu : Nat) (a : Int32) (v : Int64) (H : Heap) (locs : List Loc) (ls : Array Slot), (n_12.toInt ≤ a.toInt) → (a.toInt ≤ (σ.1 3).toInt) → ((σ.1 3).toInt - a.toInt < (fu : Int)) → va_P D vwCl (mwd y ad zw (sI (sI σ 23 n_12) 2 a)) H → va_D A (mwd y ad zw (sI (sI σ 23 n_12) 2 a)) → va_S A s.heap H locs → lv_has ls 3 [(1, .long v), (0, .ref (ad 1))] → W p l e ({ frames := 3, cells := 0, slots := 0, locals := 64 } : Room) s m ([.ref (ad 1)] : List Value).toArray below meth c H locs 0 0 Q (F0 m 58 ls []) := by
            intro fu
            induction fu with
            | zero =>
              intro a v H locs ls hl0 hl1 hm
              exact absurd hm (by omega)
            | succ fu ih_loop =>
              intro a v H locs ls hl0 hl1 hm hP hD hS hl
              refine lv_aload_n hx hb dX12_name_58 rfl (lv_at hl 1 rfl) ?_
              refine va_get (D := D) (ci := 11) (v := .int a) (C := RX12) (T := TX12) (N := 85) hx hb hts inX12 hown hK hP 0 mwd_o0 rfl 2 (by decide) fl197 (fun _ h9 => h9) rfl dX12_name_59 ?_
              refine lv_aload_n hx hb dX12_name_62 rfl (lv_at hl 1 rfl) ?_
              refine va_get (D := D) (ci := 11) (v := .int (σ.1 3)) (C := RX12) (T := TX12) (N := 85) hx hb hts inX12 hown hK hP 0 mwd_o0 rfl 3 (by decide) fl200 (fun _ h9 => h9) rfl dX12_name_63 ?_
              refine lv_icmp_ge (tgt := 145) hx hb dX12_name_66 (by decide) (fun c_14 => ?_) (fun c_14 => ?_)
              · have kc_14 : a.toInt ≥ (σ.1 3).toInt := by have h9 := c_14; simp only [ge_iff_le, gt_iff_lt, x_lt, x_le, x_eq, ne_eq, Int32.not_lt, Int32.not_le] at h9; omega
                refine lv_aload_n hx hb dX12_name_145 rfl (lv_at hl 1 rfl) ?_
                refine lv_aload_n hx hb dX12_name_146 rfl (lv_at hl 1 rfl) ?_
                refine va_get (D := D) (ci := 11) (v := .int a) (C := RX12) (T := TX12) (N := 85) hx hb hts inX12 hown hK hP 0 mwd_o0 rfl 2 (by decide) fl197 (fun _ h9 => h9) rfl dX12_name_147 ?_
                refine va_put (D := D) (ci := 11) (v := .int a) (ty := .int) (C := RX12) (T := TX12) (N := 85) hx hb hts inX12 tyX12 tyX12_ok nmX12 hown hK hP hD hS 0 mwd_o0 rfl 4 (by decide) fl211 (fun _ h9 => h9) rfl (by decide +kernel) rfl rfl (Nat.le_of_ble_eq_true rfl) dX12_name_150 (fun H locs hP hD hS => ?_)
                have hP : va_P D vwCl (mwd y ad zw (sI (sI (sI σ 23 n_12) 2 a) 4 a)) H := x_trP hP mwd_p0_4
                have hD : va_D A (mwd y ad zw (sI (sI (sI σ 23 n_12) 2 a) 4 a)) := x_trD hD mwd_p0_4
                refine lv_lload_n hx hb dX12_name_153 rfl (lv_at hl 0 rfl) ?_
                have hP : va_P D vwCl (mwd y ad zw (sI (sI (sI (sI (sI σ 2 a) 4 a) 5 (σ.1 5)) 6 (σ.1 6)) 23 n_12)) H := hP
                have hD : va_D A (mwd y ad zw (sI (sI (sI (sI (sI σ 2 a) 4 a) 5 (σ.1 5)) 6 (σ.1 6)) 23 n_12)) := hD
                exact x_lretW (v := v) (u := (a, a, (σ.1 5), (σ.1 6), n_12)) hx hb hr hQ (by (try dsimp only); exact ⟨by omega, by omega, by omega⟩) hP hD hK hS dX12_name_154 hlocks
              · have kc_14 : a.toInt < (σ.1 3).toInt := by have h9 := c_14; simp only [ge_iff_le, gt_iff_lt, x_lt, x_le, x_eq, ne_eq, Int32.not_lt, Int32.not_le] at h9; omega
                refine lv_aload_n hx hb dX12_name_69 rfl (lv_at hl 1 rfl) ?_
                refine va_get (D := D) (ci := 11) (v := .ref (ad 0)) (C := RX12) (T := TX12) (N := 85) hx hb hts inX12 hown hK hP 0 mwd_o0 rfl 0 (by decide) fl7 (fun _ h9 => h9) rfl dX12_name_70 ?_
                refine lv_aload_n hx hb dX12_name_73 rfl (lv_at hl 1 rfl) ?_
                refine va_get (D := D) (ci := 11) (v := .int a) (C := RX12) (T := TX12) (N := 85) hx hb hts inX12 hown hK hP 0 mwd_o0 rfl 2 (by decide) fl197 (fun _ h9 => h9) rfl dX12_name_74 ?_
                refine va_iald hx hb hK hP 1 2 mwd_a1 rfl (x_in (by omega) (by omega)) dX12_name_77 ?_
                refine lv_topi (fun i_15 ei_15 => ?_)
                have ei_15 : i_15 = (σ.2.2.1 0) (Int32.toNatClampNeg a) := ei_15
                have qi_15 : a.toInt = n_3.toInt → i_15.toInt = ((σ.2.2.1 0) (Int32.toNatClampNeg n_3)).toInt := fun h9 => by rw [ei_15, Int32.toInt_inj.mp h9]
                refine x_calliN (va_runS (As := [.int i_15]) (rest := []) ⟨hx, hb, hml, hown, hts⟩ (q_isLetter2 l D y H.size i_15) (cwS 1 hts g_q_name_1 rfl rfl rfl (by decide +kernel) ⟨Nat.le_of_ble_eq_true rfl, Nat.le_of_ble_eq_true rfl⟩) (x_preS hK (x_nilP D H) (x_nilD A)) rfl rfl hl.1 rfl (lv_room (Nat.le_of_ble_eq_true rfl)) dX12_name_78 ⟨Nat.le_of_ble_eq_true rfl, Nat.le_of_ble_eq_true rfl⟩) hP hD hS hA (fun r_16 u H locs hw hP hD hS => ?_)
                try dsimp only at hw
                refine lv_if_eq (tgt := 145) hx hb dX12_name_81 (by decide) (fun c_17 => ?_) (fun c_17 => ?_)
                · have kc_17 : r_16.toInt = 0 := by have h9 := c_17; simp only [ge_iff_le, gt_iff_lt, x_lt, x_le, x_eq, ne_eq, Int32.not_lt, Int32.not_le] at h9; simp only [Int32.reduceToInt] at h9; omega
                  refine lv_aload_n hx hb dX12_name_145 rfl (lv_at hl 1 rfl) ?_
                  refine lv_aload_n hx hb dX12_name_146 rfl (lv_at hl 1 rfl) ?_
                  refine va_get (D := D) (ci := 11) (v := .int a) (C := RX12) (T := TX12) (N := 85) hx hb hts inX12 hown hK hP 0 mwd_o0 rfl 2 (by decide) fl197 (fun _ h9 => h9) rfl dX12_name_147 ?_
                  refine va_put (D := D) (ci := 11) (v := .int a) (ty := .int) (C := RX12) (T := TX12) (N := 85) hx hb hts inX12 tyX12 tyX12_ok nmX12 hown hK hP hD hS 0 mwd_o0 rfl 4 (by decide) fl211 (fun _ h9 => h9) rfl (by decide +kernel) rfl rfl (Nat.le_of_ble_eq_true rfl) dX12_name_150 (fun H locs hP hD hS => ?_)
                  have hP : va_P D vwCl (mwd y ad zw (sI (sI (sI σ 23 n_12) 2 a) 4 a)) H := x_trP hP mwd_p0_4
                  have hD : va_D A (mwd y ad zw (sI (sI (sI σ 23 n_12) 2 a) 4 a)) := x_trD hD mwd_p0_4
                  refine lv_lload_n hx hb dX12_name_153 rfl (lv_at hl 0 rfl) ?_
                  have hP : va_P D vwCl (mwd y ad zw (sI (sI (sI (sI (sI σ 2 a) 4 a) 5 (σ.1 5)) 6 (σ.1 6)) 23 n_12)) H := hP
                  have hD : va_D A (mwd y ad zw (sI (sI (sI (sI (sI σ 2 a) 4 a) 5 (σ.1 5)) 6 (σ.1 6)) 23 n_12)) := hD
                  exact x_lretW (v := v) (u := (a, a, (σ.1 5), (σ.1 6), n_12)) hx hb hr hQ (by (try dsimp only); exact ⟨by omega, by omega, by omega⟩) hP hD hK hS dX12_name_154 hlocks
                · have kc_17 : r_16.toInt ≠ 0 := by have h9 := c_17; simp only [ge_iff_le, gt_iff_lt, x_lt, x_le, x_eq, ne_eq, Int32.not_lt, Int32.not_le] at h9; simp only [Int32.reduceToInt] at h9; omega
                  refine lv_aload_n hx hb dX12_name_84 rfl (lv_at hl 1 rfl) ?_
                  refine va_get (D := D) (ci := 11) (v := .int a) (C := RX12) (T := TX12) (N := 85) hx hb hts inX12 hown hK hP 0 mwd_o0 rfl 2 (by decide) fl197 (fun _ h9 => h9) rfl dX12_name_85 ?_
                  refine lv_aload_n hx hb dX12_name_88 rfl (lv_at hl 1 rfl) ?_
                  refine va_get (D := D) (ci := 11) (v := .int n_12) (C := RX12) (T := TX12) (N := 85) hx hb hts inX12 hown hK hP 0 mwd_o0 rfl 23 (by decide) fl239 (fun _ h9 => h9) rfl dX12_name_89 ?_
                  refine lv_isub hx hb dX12_name_92 ?_
                  refine lv_topi (fun i_18 ei_18 => ?_)
                  have vi_18 : i_18.toInt = a.toInt - n_12.toInt := by have h9 := x_sub ei_18 (by omega) (by omega); omega
                  refine lv_bipush (v := 6) hx hb dX12_name_93 (by decide) ?_
                  refine lv_icmp_ne (tgt := 109) hx hb dX12_name_95 (by decide) (fun c_19 => ?_) (fun c_19 => ?_)
                  · have kc_19 : i_18.toInt ≠ 6 := by have h9 := c_19; simp only [ge_iff_le, gt_iff_lt, x_lt, x_le, x_eq, ne_eq, Int32.not_lt, Int32.not_le] at h9; simp only [Int32.reduceToInt] at h9; omega
                    refine lv_ldc2 (v := 27) hx hb hown (hts (.constantLong RX12 242 27) (List.mem_of_getElem? (i := 7) rfl)) dX12_name_109 ?_
                    refine lv_lload_n hx hb dX12_name_112 rfl (lv_at hl 0 rfl) ?_
                    refine lv_lmul hx hb dX12_name_113 ?_
                    refine lv_topl (fun j_20 ej_20 => ?_)
                    refine lv_aload_n hx hb dX12_name_114 rfl (lv_at hl 1 rfl) ?_
                    refine va_get (D := D) (ci := 11) (v := .ref (ad 0)) (C := RX12) (T := TX12) (N := 85) hx hb hts inX12 hown hK hP 0 mwd_o0 rfl 0 (by decide) fl7 (fun _ h9 => h9) rfl dX12_name_115 ?_
                    refine lv_aload_n hx hb dX12_name_118 rfl (lv_at hl 1 rfl) ?_
                    refine va_get (D := D) (ci := 11) (v := .int a) (C := RX12) (T := TX12) (N := 85) hx hb hts inX12 hown hK hP 0 mwd_o0 rfl 2 (by decide) fl197 (fun _ h9 => h9) rfl dX12_name_119 ?_
                    refine va_iald hx hb hK hP 1 2 mwd_a1 rfl (x_in (by omega) (by omega)) dX12_name_122 ?_
                    refine lv_topi (fun i_21 ei_21 => ?_)
                    have ei_21 : i_21 = (σ.2.2.1 0) (Int32.toNatClampNeg a) := ei_21
                    have qi_21 : a.toInt = n_3.toInt → i_21.toInt = ((σ.2.2.1 0) (Int32.toNatClampNeg n_3)).toInt := fun h9 => by rw [ei_21, Int32.toInt_inj.mp h9]
                    refine lv_i2l hx hb dX12_name_123 rfl ?_
                    refine lv_topl (fun j_22 ej_22 => ?_)
                    have vj_22 : j_22.toInt = i_21.toInt := by rw [ej_22]; exact Int32.toInt_toInt64 _
                    refine lv_ladd hx hb dX12_name_124 ?_
                    refine lv_topl (fun j_23 ej_23 => ?_)
                    refine lv_ldc2 (v := 97) hx hb hown (hts (.constantLong RX12 244 97) (List.mem_of_getElem? (i := 8) rfl)) dX12_name_125 ?_
                    refine lv_lsub hx hb dX12_name_128 ?_
                    refine lv_topl (fun j_24 ej_24 => ?_)
                    refine lv_lconst (v := 1) hx hb dX12_name_129 (by decide) ?_
                    refine lv_ladd hx hb dX12_name_130 ?_
                    refine lv_topl (fun j_25 ej_25 => ?_)
                    refine lv_lstore_n (lv' := [(1, .long j_25), (0, .ref (ad 1))]) hx hb dX12_name_131 rfl hl (by decide) rfl (fun ls hl => ?_)
                    refine lv_aload_n hx hb dX12_name_132 rfl (lv_at hl 1 rfl) ?_
                    refine lv_dup hx hb dX12_name_133 rfl ?_
                    refine va_get (D := D) (ci := 11) (v := .int a) (C := RX12) (T := TX12) (N := 85) hx hb hts inX12 hown hK hP 0 mwd_o0 rfl 2 (by decide) fl197 (fun _ h9 => h9) rfl dX12_name_134 ?_
                    refine lv_iconst (v := 1) hx hb dX12_name_137 (by decide) ?_
                    refine lv_iadd hx hb dX12_name_138 ?_
                    refine lv_topi (fun i_26 ei_26 => ?_)
                    have vi_26 : i_26.toInt = a.toInt + 1 := by have h9 := x_add ei_26 (by omega) (by omega); omega
                    refine va_put (D := D) (ci := 11) (v := .int i_26) (ty := .int) (C := RX12) (T := TX12) (N := 85) hx hb hts inX12 tyX12 tyX12_ok nmX12 hown hK hP hD hS 0 mwd_o0 rfl 2 (by decide) fl197 (fun _ h9 => h9) rfl (by decide +kernel) rfl rfl (Nat.le_of_ble_eq_true rfl) dX12_name_139 (fun H locs hP hD hS => ?_)
                    have hP : va_P D vwCl (mwd y ad zw (sI (sI (sI σ 23 n_12) 2 a) 2 i_26)) H := x_trP hP mwd_p0_2
                    have hD : va_D A (mwd y ad zw (sI (sI (sI σ 23 n_12) 2 a) 2 i_26)) := x_trD hD mwd_p0_2
                    refine lv_goto (tgt := 58) hx hb dX12_name_142 (by decide) ?_
                    have hP : va_P D vwCl (mwd y ad zw (sI (sI σ 23 n_12) 2 i_26)) H := hP
                    have hD : va_D A (mwd y ad zw (sI (sI σ 23 n_12) 2 i_26)) := hD
                    exact ih_loop i_26 j_25 H locs ls (by omega) (by omega) (by omega) hP hD hS (lv_sub hl [0, 1] rfl)
                  · have kc_19 : i_18.toInt = 6 := by have h9 := c_19; simp only [ge_iff_le, gt_iff_lt, x_lt, x_le, x_eq, ne_eq, Int32.not_lt, Int32.not_le] at h9; simp only [Int32.reduceToInt] at h9; omega
                    refine lv_aload_n hx hb dX12_name_98 rfl (lv_at hl 1 rfl) ?_
                    refine lv_iconst (v := 1) hx hb dX12_name_99 (by decide) ?_
                    refine lv_aload_n hx hb dX12_name_100 rfl (lv_at hl 1 rfl) ?_
                    refine va_get (D := D) (ci := 11) (v := .int a) (C := RX12) (T := TX12) (N := 85) hx hb hts inX12 hown hK hP 0 mwd_o0 rfl 2 (by decide) fl197 (fun _ h9 => h9) rfl dX12_name_101 ?_
                    refine x_callvW (va_runV (As := [.int 1, .int a]) (rest := []) ⟨hx, hb, hml, hown, hts⟩ (q_fail l D y H.size ad zw (sI (sI σ 23 n_12) 2 a) 1 a) (cwV 2 hts g_q_name_2 rfl rfl rfl (by decide +kernel) ⟨Nat.le_of_ble_eq_true rfl, Nat.le_of_ble_eq_true rfl⟩) (x_preV (q := (RX12, TX12, 85)) hK hP hD (ci := 11) (q0 := 0) rfl mwd_o0) rfl rfl hl.1 rfl (lv_room (Nat.le_of_ble_eq_true rfl)) dX12_name_104 ⟨Nat.le_of_ble_eq_true rfl, Nat.le_of_ble_eq_true rfl⟩) hP hD hS hA (fun u H locs hw hP hD hS => ?_)
                    obtain ⟨b_27, b_28⟩ := u
                    try dsimp only at hw
                    have hP : va_P D vwCl (mwd y ad zw (sI (sI (sI (sI σ 23 n_12) 2 a) 5 b_27) 6 b_28)) H := hP
                    have hD : va_D A (mwd y ad zw (sI (sI (sI (sI σ 23 n_12) 2 a) 5 b_27) 6 b_28)) := hD
                    have hw : b_27 = if (σ.1 5) = 0 then (1 : Int32) else (σ.1 5) := hw
                    have hbd : b_27.toInt ≠ 0 := by rw [hw]; split <;> first | decide | (rename_i h9; intro h8; exact h9 (Int32.toInt_inj.mp (by rw [h8]; rfl)))
                    refine lv_lconst (v := 0) hx hb dX12_name_107 (by decide) ?_
                    have hP : va_P D vwCl (mwd y ad zw (sI (sI (sI (sI (sI σ 2 a) 4 (σ.1 4)) 5 b_27) 6 b_28) 23 n_12)) H := hP
                    have hD : va_D A (mwd y ad zw (sI (sI (sI (sI (sI σ 2 a) 4 (σ.1 4)) 5 b_27) 6 b_28) 23 n_12)) := hD
                    exact x_lretW (v := 0) (u := (a, (σ.1 4), b_27, b_28, n_12)) hx hb hr hQ (by (try dsimp only); exact ⟨by omega, by omega, by omega⟩) hP hD hK hS dX12_name_108 hlocks
          exact loop 701 n_12 0 H locs ls (Int.le_refl _) (by omega) (by omega) hP hD hS (lv_sub hl [0, 1] rfl)
        · have kc_13 : r_11.toInt ≠ 0 := by have h9 := c_13; simp only [ge_iff_le, gt_iff_lt, x_lt, x_le, x_eq, ne_eq, Int32.not_lt, Int32.not_le] at h9; simp only [Int32.reduceToInt] at h9; omega
          refine lv_aload_n hx hb dX12_name_37 rfl (lv_at hl 0 rfl) ?_
          refine lv_iconst (v := 1) hx hb dX12_name_38 (by decide) ?_
          refine lv_aload_n hx hb dX12_name_39 rfl (lv_at hl 0 rfl) ?_
          refine va_get (D := D) (ci := 11) (v := .int n_12) (C := RX12) (T := TX12) (N := 85) hx hb hts inX12 hown hK hP 0 mwd_o0 rfl 2 (by decide) fl197 (fun _ h9 => h9) rfl dX12_name_40 ?_
          refine x_callvW (va_runV (As := [.int 1, .int n_12]) (rest := []) ⟨hx, hb, hml, hown, hts⟩ (q_fail l D y H.size ad zw (sI (sI σ 2 n_3) 2 n_12) 1 n_12) (cwV 2 hts g_q_name_2 rfl rfl rfl (by decide +kernel) ⟨Nat.le_of_ble_eq_true rfl, Nat.le_of_ble_eq_true rfl⟩) (x_preV (q := (RX12, TX12, 85)) hK hP hD (ci := 11) (q0 := 0) rfl mwd_o0) rfl rfl hl.1 rfl (lv_room (Nat.le_of_ble_eq_true rfl)) dX12_name_43 ⟨Nat.le_of_ble_eq_true rfl, Nat.le_of_ble_eq_true rfl⟩) hP hD hS hA (fun u H locs hw hP hD hS => ?_)
          obtain ⟨b_29, b_30⟩ := u
          try dsimp only at hw
          have hP : va_P D vwCl (mwd y ad zw (sI (sI (sI (sI σ 2 n_3) 2 n_12) 5 b_29) 6 b_30)) H := hP
          have hD : va_D A (mwd y ad zw (sI (sI (sI (sI σ 2 n_3) 2 n_12) 5 b_29) 6 b_30)) := hD
          have hw : b_29 = if (σ.1 5) = 0 then (1 : Int32) else (σ.1 5) := hw
          have hbd : b_29.toInt ≠ 0 := by rw [hw]; split <;> first | decide | (rename_i h9; intro h8; exact h9 (Int32.toInt_inj.mp (by rw [h8]; rfl)))
          refine lv_lconst (v := 0) hx hb dX12_name_46 (by decide) ?_
          have hP : va_P D vwCl (mwd y ad zw (sI (sI (sI (sI (sI σ 2 n_12) 4 (σ.1 4)) 5 b_29) 6 b_30) 23 (σ.1 23))) H := hP
          have hD : va_D A (mwd y ad zw (sI (sI (sI (sI (sI σ 2 n_12) 4 (σ.1 4)) 5 b_29) 6 b_30) 23 (σ.1 23))) := hD
          exact x_lretW (v := 0) (u := (n_12, (σ.1 4), b_29, b_30, (σ.1 23))) hx hb hr hQ (by (try dsimp only); exact ⟨by omega, by omega, by omega⟩) hP hD hK hS dX12_name_47 hlocks
  · have kc_1 : (σ.1 5).toInt ≠ 0 := by have h9 := c_1; simp only [ge_iff_le, gt_iff_lt, x_lt, x_le, x_eq, ne_eq, Int32.not_lt, Int32.not_le] at h9; simp only [Int32.reduceToInt] at h9; omega
    refine lv_lconst (v := 0) hx hb dX12_name_7 (by decide) ?_
    have hP : va_P D vwCl (mwd y ad zw (sI (sI (sI (sI (sI σ 2 (σ.1 2)) 4 (σ.1 4)) 5 (σ.1 5)) 6 (σ.1 6)) 23 (σ.1 23))) H := hP
    have hD : va_D A (mwd y ad zw (sI (sI (sI (sI (sI σ 2 (σ.1 2)) 4 (σ.1 4)) 5 (σ.1 5)) 6 (σ.1 6)) 23 (σ.1 23))) := hD
    exact x_lretW (v := 0) (u := ((σ.1 2), (σ.1 4), (σ.1 5), (σ.1 6), (σ.1 23))) hx hb hr hQ (by (try dsimp only); exact ⟨by omega, by omega, by omega⟩) hP hD hK hS dX12_name_8 hlocks

def v_q_code : List Cond := .code yX12_code cX12_code 2 none :: ([.fieldLink RX12 69 "SlopeRunnerModel" "codes" "[I", .fieldLink RX12 246 "SlopeRunnerModel" "coded" "I"] ++ wsX120)
set_option maxHeartbeats 4000000 in
set_option maxRecDepth 100000 in
theorem q_code (l : Launch) (D : va_G) (y : Nat → ClassId) (sz : Nat) (ad : Nat → Nat) (zw : Nat → Nat → Int32) (σ : OS) (v : Int32) (hc0 : 0 ≤ (σ.1 29).toInt) (hc1 : (σ.1 29).toInt < 1200) : Met l yX12_code v_q_code ({ frames := 0, cells := 0, slots := 0, locals := 0 } : Room) (va_Pc [.ref (ad 1), .int v] (xPre D (xT y) (mwd y ad zw σ) sz)) (va_Qv (fun (u : Int32 × (Nat → Int32)) => u.1.toInt = (σ.1 29).toInt + 1 ∧ u.2 = upd (σ.2.2.1 27) (σ.1 29).toInt.toNat v) (fun (u : Int32 × (Nat → Int32)) => xB D (xT y) (va_A (mwd y ad zw σ) sz) (mwd y ad zw (tI (sI σ 29 u.1) 27 u.2))) (va_A (mwd y ad zw σ) sz)) 0 0 (va_A (mwd y ad zw σ) sz) := by
  refine x_metv (cc := cX12_code) (maxL := 2) (by decide) rfl (Nat.le_of_ble_eq_true rfl) ?_
  intro p e s m below meth c A H locs Q hx hb hml hown hts hr hlocks hmn hA hP hK hD hS ls hl hQ
  have hl : lv_has ls 2 [(0, .ref (ad 1)), (1, .int v)] := hl
  have fl69 := hts (.fieldLink RX12 69 "SlopeRunnerModel" "codes" "[I") (List.mem_of_getElem? (i := 1) rfl)
  have inX12 : ∀ w ∈ wsX120, w ∈ v_q_code := (fun w h => List.mem_cons_of_mem _ (List.mem_append_right _ h))
  have fl246 := hts (.fieldLink RX12 246 "SlopeRunnerModel" "coded" "I") (List.mem_of_getElem? (i := 2) rfl)
  have kk_0 : (0 : Int32).toInt = 0 := rfl
  have kk_1 : (1 : Int32).toInt = 1 := rfl
  refine lv_aload_n hx hb dX12_code_0 rfl (lv_at hl 0 rfl) ?_
  refine va_get (D := D) (ci := 11) (v := .ref (ad 27)) (C := RX12) (T := TX12) (N := 85) hx hb hts inX12 hown hK hP 0 mwd_o0 rfl 27 (by decide) fl69 (fun _ h9 => h9) rfl dX12_code_1 ?_
  refine lv_iconst (v := 0) hx hb dX12_code_4 (by decide) ?_
  refine lv_aload_n hx hb dX12_code_5 rfl (lv_at hl 0 rfl) ?_
  refine va_get (D := D) (ci := 11) (v := .int (σ.1 29)) (C := RX12) (T := TX12) (N := 85) hx hb hts inX12 hown hK hP 0 mwd_o0 rfl 29 (by decide) fl246 (fun _ h9 => h9) rfl dX12_code_6 ?_
  refine lv_iadd hx hb dX12_code_9 ?_
  refine lv_topi (fun i_1 ei_1 => ?_)
  have vi_1 : i_1.toInt = 0 + (σ.1 29).toInt := by have h9 := x_add ei_1 (by omega) (by omega); omega
  refine lv_iload_n hx hb dX12_code_10 rfl (lv_at hl 1 rfl) ?_
  refine va_iast hx hb hK hP hD hS 19 2 mwd_a19 rfl (x_in (by omega) (by omega)) dX12_code_11 (fun H locs hP hD hS => ?_)
  obtain ⟨f_2, ef_2⟩ : ∃ z9 : Nat → Int32, z9 = (upd (σ.2.2.1 27) (Int32.toNatClampNeg i_1) v) := ⟨_, rfl⟩
  rw [cj_ulo (by show Int.toNat _ < _; omega)] at hP hD
  have hP : va_P D vwCl (mwd y ad zw (tI σ 27 f_2)) H := by rw [ef_2]; exact x_trP hP mwd_s19
  have hD : va_D A (mwd y ad zw (tI σ 27 f_2)) := by rw [ef_2]; exact x_trD hD mwd_s19
  refine lv_aload_n hx hb dX12_code_12 rfl (lv_at hl 0 rfl) ?_
  refine lv_dup hx hb dX12_code_13 rfl ?_
  refine va_get (D := D) (ci := 11) (v := .int (σ.1 29)) (C := RX12) (T := TX12) (N := 85) hx hb hts inX12 hown hK hP 0 mwd_o0 rfl 29 (by decide) fl246 (fun _ h9 => h9) rfl dX12_code_14 ?_
  refine lv_iconst (v := 1) hx hb dX12_code_17 (by decide) ?_
  refine lv_iadd hx hb dX12_code_18 ?_
  refine lv_topi (fun i_3 ei_3 => ?_)
  have vi_3 : i_3.toInt = (σ.1 29).toInt + 1 := by have h9 := x_add ei_3 (by omega) (by omega); omega
  refine va_put (D := D) (ci := 11) (v := .int i_3) (ty := .int) (C := RX12) (T := TX12) (N := 85) hx hb hts inX12 tyX12 tyX12_ok nmX12 hown hK hP hD hS 0 mwd_o0 rfl 29 (by decide) fl246 (fun _ h9 => h9) rfl (by decide +kernel) rfl rfl (Nat.le_of_ble_eq_true rfl) dX12_code_19 (fun H locs hP hD hS => ?_)
  have hP : va_P D vwCl (mwd y ad zw (sI (tI σ 27 f_2) 29 i_3)) H := x_trP hP mwd_p0_29
  have hD : va_D A (mwd y ad zw (sI (tI σ 27 f_2) 29 i_3)) := x_trD hD mwd_p0_29
  have hP : va_P D vwCl (mwd y ad zw (tI (sI σ 29 i_3) 27 f_2)) H := hP
  have hD : va_D A (mwd y ad zw (tI (sI σ 29 i_3) 27 f_2)) := hD
  exact x_vretW (u := (i_3, f_2)) hx hb hr hQ (by (try dsimp only); exact ⟨by omega, by rw [ef_2, x_cl (n := (σ.1 29).toInt.toNat) (by omega)]⟩) hP hD hK hS dX12_code_22 hlocks

def v_q_asOf : List Cond := .code yX12_asOf cX12_asOf 4 (some .int) :: ([.fieldLink RX12 249 "SlopeRunnerModel" "names" "I", .fieldLink RX12 78 "SlopeRunnerModel" "named" "[J", .fieldLink RX12 82 "SlopeRunnerModel" "namedAs" "[I"] ++ wsX120)
set_option maxHeartbeats 4000000 in
set_option maxRecDepth 100000 in
theorem q_asOf (l : Launch) (D : va_G) (y : Nat → ClassId) (sz : Nat) (ad : Nat → Nat) (zw : Nat → Nat → Int32) (σ : OS) (v : Int64) (hn0 : 0 ≤ (σ.1 33).toInt) (hn1 : (σ.1 33).toInt ≤ 24) (hB35 : bI (σ.2.2.1 35) 0 23) : Met l yX12_asOf v_q_asOf ({ frames := 0, cells := 0, slots := 0, locals := 0 } : Room) (va_Pc [.ref (ad 1), .long v] (xPre D (xT y) (mwd y ad zw σ) sz)) (va_Qi (fun (r : Int32) (_ : Unit) => r.toInt = -1 ∨ (0 ≤ r.toInt ∧ r.toInt ≤ 23)) (fun (u : Unit) => xB D (xT y) (va_A (mwd y ad zw σ) sz) (mwd y ad zw σ)) (va_A (mwd y ad zw σ) sz)) 0 0 (va_A (mwd y ad zw σ) sz) := by
  refine x_meti (cc := cX12_asOf) (maxL := 4) (by decide) rfl (Nat.le_of_ble_eq_true rfl) ?_
  intro p e s m below meth c A H locs Q hx hb hml hown hts hr hlocks hmn hA hP hK hD hS ls hl hQ
  have hl : lv_has ls 4 [(0, .ref (ad 1)), (1, .long v)] := hl
  have fl249 := hts (.fieldLink RX12 249 "SlopeRunnerModel" "names" "I") (List.mem_of_getElem? (i := 1) rfl)
  have inX12 : ∀ w ∈ wsX120, w ∈ v_q_asOf := (fun w h => List.mem_cons_of_mem _ (List.mem_append_right _ h))
  have kk_m1 : ((-1) : Int32).toInt = -1 := rfl
  have fl78 := hts (.fieldLink RX12 78 "SlopeRunnerModel" "named" "[J") (List.mem_of_getElem? (i := 2) rfl)
  have kk_1 : (1 : Int32).toInt = 1 := rfl
  have fl82 := hts (.fieldLink RX12 82 "SlopeRunnerModel" "namedAs" "[I") (List.mem_of_getElem? (i := 3) rfl)
  refine lv_iconst (v := 0) hx hb dX12_asOf_0 (by decide) ?_
  refine lv_istore_n (lv' := [(3, .int 0), (0, .ref (ad 1)), (1, .long v)]) hx hb dX12_asOf_1 rfl hl (by decide) rfl (fun ls hl => ?_)
  have loop : ∀ (fu : Nat) (k : Int32) (H : Heap) (locs : List Loc) (ls : Array Slot), (0 ≤ k.toInt) → (k.toInt ≤ 24) → (24 - k.toInt < (fu : Int)) → va_P D vwCl (mwd y ad zw σ) H → va_D A (mwd y ad zw σ) → va_S A s.heap H locs → lv_has ls 4 [(3, .int k), (1, .long v), (0, .ref (ad 1))] → W p l e ({ frames := 0, cells := 0, slots := 0, locals := 0 } : Room) s m ([.ref (ad 1), .long v] : List Value).toArray below meth c H locs 0 0 Q (F0 m 2 ls []) := by
    intro fu
    induction fu with
    | zero =>
      intro k H locs ls hk0 hk1 hm
      exact absurd hm (by omega)
    | succ fu ih_loop =>
      intro k H locs ls hk0 hk1 hm hP hD hS hl
      refine lv_iload_n hx hb dX12_asOf_2 rfl (lv_at hl 0 rfl) ?_
      refine lv_aload_n hx hb dX12_asOf_3 rfl (lv_at hl 2 rfl) ?_
      refine va_get (D := D) (ci := 11) (v := .int (σ.1 33)) (C := RX12) (T := TX12) (N := 85) hx hb hts inX12 hown hK hP 0 mwd_o0 rfl 33 (by decide) fl249 (fun _ h9 => h9) rfl dX12_asOf_4 ?_
      refine lv_icmp_ge (tgt := 34) hx hb dX12_asOf_7 (by decide) (fun c_1 => ?_) (fun c_1 => ?_)
      · have kc_1 : k.toInt ≥ (σ.1 33).toInt := by have h9 := c_1; simp only [ge_iff_le, gt_iff_lt, x_lt, x_le, x_eq, ne_eq, Int32.not_lt, Int32.not_le] at h9; omega
        refine lv_iconst (v := (-1)) hx hb dX12_asOf_34 (by decide) ?_
        exact x_iretW (v := (-1)) (u := ()) hx hb hr hQ (by omega) hP hD hK hS dX12_asOf_35 hlocks
      · have kc_1 : k.toInt < (σ.1 33).toInt := by have h9 := c_1; simp only [ge_iff_le, gt_iff_lt, x_lt, x_le, x_eq, ne_eq, Int32.not_lt, Int32.not_le] at h9; omega
        refine lv_aload_n hx hb dX12_asOf_10 rfl (lv_at hl 2 rfl) ?_
        refine va_get (D := D) (ci := 11) (v := .ref (ad 34)) (C := RX12) (T := TX12) (N := 85) hx hb hts inX12 hown hK hP 0 mwd_o0 rfl 34 (by decide) fl78 (fun _ h9 => h9) rfl dX12_asOf_11 ?_
        refine lv_iload_n hx hb dX12_asOf_14 rfl (lv_at hl 0 rfl) ?_
        refine va_lald hx hb hK hP 22 3 mwd_a22 rfl (x_in (by omega) (by omega)) dX12_asOf_15 ?_
        refine lv_topl (fun j_2 ej_2 => ?_)
        have ej_2 : j_2 = (σ.2.2.2 34) (Int32.toNatClampNeg k) := ej_2
        refine lv_lload_n hx hb dX12_asOf_16 rfl (lv_at hl 1 rfl) ?_
        refine W.lcmp hx hb dX12_asOf_17 ?_
        refine lv_if_ne (tgt := 28) hx hb dX12_asOf_18 (by decide) (fun c_3 => ?_) (fun c_3 => ?_)
        · have kc_3 : j_2.toInt ≠ v.toInt := by have h9 := x_tri j_2 v; (try simp only [Int64.reduceToInt] at h9); rcases h9 with ⟨g1, g2⟩ | ⟨g1, g2⟩ | ⟨g1, g2⟩ <;> first | omega | (exfalso; rw [g1] at c_3; revert c_3; decide)
          obtain ⟨i_4, ei_4⟩ : ∃ z9 : Int32, z9 = k + 1 := ⟨_, rfl⟩
          have vi_4 : i_4.toInt = k.toInt + 1 := by have h9 := x_add ei_4 (by omega) (by omega); omega
          refine lv_iinc (v := i_4) (lv' := [(3, .int i_4), (1, .long v), (0, .ref (ad 1))]) hx hb dX12_asOf_28 hl (k := 0) rfl (by rw [ei_4]; rfl) (by decide) rfl (fun ls hl => ?_)
          refine lv_goto (tgt := 2) hx hb dX12_asOf_31 (by decide) ?_
          exact ih_loop i_4 H locs ls (by omega) (by omega) (by omega) hP hD hS (lv_sub hl [0, 1, 2] rfl)
        · have kc_3 : j_2.toInt = v.toInt := by have h9 := x_tri j_2 v; (try simp only [Int64.reduceToInt] at h9); rcases h9 with ⟨g1, g2⟩ | ⟨g1, g2⟩ | ⟨g1, g2⟩ <;> first | omega | (exfalso; rw [g1] at c_3; revert c_3; decide)
          refine lv_aload_n hx hb dX12_asOf_21 rfl (lv_at hl 2 rfl) ?_
          refine va_get (D := D) (ci := 11) (v := .ref (ad 35)) (C := RX12) (T := TX12) (N := 85) hx hb hts inX12 hown hK hP 0 mwd_o0 rfl 35 (by decide) fl82 (fun _ h9 => h9) rfl dX12_asOf_22 ?_
          refine lv_iload_n hx hb dX12_asOf_25 rfl (lv_at hl 0 rfl) ?_
          refine va_iald hx hb hK hP 23 2 mwd_a23 rfl (x_in (by omega) (by omega)) dX12_asOf_26 ?_
          refine lv_topi (fun i_5 ei_5 => ?_)
          have ei_5 : i_5 = (σ.2.2.1 35) (Int32.toNatClampNeg k) := ei_5
          have bi_5 := b_at hB35 ei_5
          exact x_iretW (v := i_5) (u := ()) hx hb hr hQ (by omega) hP hD hK hS dX12_asOf_27 hlocks
  exact loop 25 0 H locs ls (by decide) (by decide) (by have h7 : (0 : Int32).toInt = 0 := rfl; omega) hP hD hS (lv_sub hl [0, 2, 1] rfl)

def v_q_names : List Cond := .code yX12_names cX12_names 4 none :: ([.fieldLink RX12 191 "SlopeRunnerModel" "bad" "I", .fieldLink RX12 78 "SlopeRunnerModel" "named" "[J", .fieldLink RX12 249 "SlopeRunnerModel" "names" "I", .fieldLink RX12 82 "SlopeRunnerModel" "namedAs" "[I", .fieldLink RX12 239 "SlopeRunnerModel" "namePlace" "I"] ++ ((wsV RX12 252 RX12 yX12_name v_q_name) ++ ((wsV RX12 256 RX12 yX12_asOf v_q_asOf) ++ ((wsV RX12 221 RX12 yX12_fail v_q_fail) ++ wsX120))))
theorem g_q_names_0 : GoodIn v_q_names (wsV RX12 252 RX12 yX12_name v_q_name) := goodIn_sub (fun w h => List.mem_cons_of_mem _ (List.mem_append_right _ (List.mem_append_left _ h))) (by decide +kernel)
theorem g_q_names_1 : GoodIn v_q_names (wsV RX12 256 RX12 yX12_asOf v_q_asOf) := goodIn_sub (fun w h => List.mem_cons_of_mem _ (List.mem_append_right _ (List.mem_append_right _ (List.mem_append_left _ h)))) (by decide +kernel)
theorem g_q_names_2 : GoodIn v_q_names (wsV RX12 221 RX12 yX12_fail v_q_fail) := goodIn_sub (fun w h => List.mem_cons_of_mem _ (List.mem_append_right _ (List.mem_append_right _ (List.mem_append_right _ (List.mem_append_left _ h))))) (by decide +kernel)
set_option maxHeartbeats 4000000 in
set_option maxRecDepth 100000 in
theorem q_names (l : Launch) (D : va_G) (y : Nat → ClassId) (sz : Nat) (ad : Nat → Nat) (zw : Nat → Nat → Int32) (σ : OS) (k : Int32) (hk0 : 0 ≤ k.toInt) (hk1 : k.toInt ≤ 23) (hn0 : 0 ≤ (σ.1 33).toInt) (hn1 : (σ.1 33).toInt ≤ 23) (ha0 : 0 ≤ (σ.1 2).toInt) (ha1 : (σ.1 2).toInt ≤ (σ.1 3).toInt) (ha2 : (σ.1 3).toInt ≤ 700) (hB35 : bI (σ.2.2.1 35) 0 23) : Met l yX12_names v_q_names ({ frames := 4, cells := 0, slots := 0, locals := 86 } : Room) (va_Pc [.ref (ad 1), .int k] (xPre D (xT y) (mwd y ad zw σ) sz)) (va_Qv (fun (u : Int32 × Int32 × Int32 × Int32 × Int32 × Int32 × (Nat → Int64) × (Nat → Int32)) => ((σ.1 2).toInt ≤ u.1.toInt ∧ u.1.toInt ≤ (σ.1 3).toInt ∧ (u.2.2.1.toInt = 0 → (σ.1 5).toInt = 0 ∧ (σ.1 2).toInt + 1 ≤ u.1.toInt) ∧ u.2.2.2.2.2.1.toInt = (σ.1 33).toInt + 1) ∧ bI u.2.2.2.2.2.2.2 0 23) (fun (u : Int32 × Int32 × Int32 × Int32 × Int32 × Int32 × (Nat → Int64) × (Nat → Int32)) => xB D (xT y) (va_A (mwd y ad zw σ) sz) (mwd y ad zw (tI (tJ (sI (sI (sI (sI (sI (sI σ 2 u.1) 4 u.2.1) 5 u.2.2.1) 6 u.2.2.2.1) 23 u.2.2.2.2.1) 33 u.2.2.2.2.2.1) 34 u.2.2.2.2.2.2.1) 35 u.2.2.2.2.2.2.2))) (va_A (mwd y ad zw σ) sz)) 0 0 (va_A (mwd y ad zw σ) sz) := by
  refine x_metv (cc := cX12_names) (maxL := 4) (by decide) rfl (Nat.le_of_ble_eq_true rfl) ?_
  intro p e s m below meth c A H locs Q hx hb hml hown hts hr hlocks hmn hA hP hK hD hS ls hl hQ
  have hl : lv_has ls 4 [(0, .ref (ad 1)), (1, .int k)] := hl
  have fl191 := hts (.fieldLink RX12 191 "SlopeRunnerModel" "bad" "I") (List.mem_of_getElem? (i := 1) rfl)
  have inX12 : ∀ w ∈ wsX120, w ∈ v_q_names := (fun w h => List.mem_cons_of_mem _ (List.mem_append_right _ (List.mem_append_right _ (List.mem_append_right _ (List.mem_append_right _ h)))))
  have kk_0 : (0 : Int32).toInt = 0 := rfl
  have fl78 := hts (.fieldLink RX12 78 "SlopeRunnerModel" "named" "[J") (List.mem_of_getElem? (i := 2) rfl)
  have fl249 := hts (.fieldLink RX12 249 "SlopeRunnerModel" "names" "I") (List.mem_of_getElem? (i := 3) rfl)
  have fl82 := hts (.fieldLink RX12 82 "SlopeRunnerModel" "namedAs" "[I") (List.mem_of_getElem? (i := 4) rfl)
  have kk_1 : (1 : Int32).toInt = 1 := rfl
  have kk_m1 : ((-1) : Int32).toInt = -1 := rfl
  have fl239 := hts (.fieldLink RX12 239 "SlopeRunnerModel" "namePlace" "I") (List.mem_of_getElem? (i := 5) rfl)
  have kk_3 : (3 : Int32).toInt = 3 := rfl
  refine lv_aload_n hx hb dX12_names_0 rfl (lv_at hl 0 rfl) ?_
  refine x_calllW (va_runV (As := []) (rest := []) ⟨hx, hb, hml, hown, hts⟩ (q_name l D y H.size ad zw σ (show 0 ≤ ((σ.1 2)).toInt from by first | omega | decide) (show ((σ.1 2)).toInt ≤ ((σ.1 3)).toInt from by first | omega | decide) (show ((σ.1 3)).toInt ≤ 700 from by first | omega | decide)) (cwV 0 hts g_q_names_0 rfl rfl rfl (by decide +kernel) ⟨Nat.le_of_ble_eq_true rfl, Nat.le_of_ble_eq_true rfl⟩) (x_preV (q := (RX12, TX12, 85)) hK hP hD (ci := 11) (q0 := 0) rfl mwd_o0) rfl rfl hl.1 rfl (lv_room (Nat.le_of_ble_eq_true rfl)) dX12_names_1 ⟨Nat.le_of_ble_eq_true rfl, Nat.le_of_ble_eq_true rfl⟩) hP hD hS hA (fun r_1 u H locs hw hP hD hS => ?_)
  obtain ⟨n_2, n_3, n_4, n_5, n_6⟩ := u
  try dsimp only at hw
  have hP : va_P D vwCl (mwd y ad zw (sI (sI (sI (sI (sI σ 2 n_2) 4 n_3) 5 n_4) 6 n_5) 23 n_6)) H := hP
  have hD : va_D A (mwd y ad zw (sI (sI (sI (sI (sI σ 2 n_2) 4 n_3) 5 n_4) 6 n_5) 23 n_6)) := hD
  have hw : ((σ.1 2)).toInt ≤ n_2.toInt ∧ n_2.toInt ≤ ((σ.1 3)).toInt ∧ (n_4.toInt = 0 → ((σ.1 5)).toInt = 0 ∧ ((σ.1 2)).toInt + 1 ≤ n_2.toInt) := hw
  refine lv_lstore_n (lv' := [(2, .long r_1), (0, .ref (ad 1)), (1, .int k)]) hx hb dX12_names_4 rfl hl (by decide) rfl (fun ls hl => ?_)
  refine lv_aload_n hx hb dX12_names_5 rfl (lv_at hl 1 rfl) ?_
  refine va_get (D := D) (ci := 11) (v := .int n_4) (C := RX12) (T := TX12) (N := 85) hx hb hts inX12 hown hK hP 0 mwd_o0 rfl 5 (by decide) fl191 (fun _ h9 => h9) rfl dX12_names_6 ?_
  refine lv_if_ne (tgt := 30) hx hb dX12_names_9 (by decide) (fun c_7 => ?_) (fun c_7 => ?_)
  · have kc_7 : n_4.toInt ≠ 0 := by have h9 := c_7; simp only [ge_iff_le, gt_iff_lt, x_lt, x_le, x_eq, ne_eq, Int32.not_lt, Int32.not_le] at h9; simp only [Int32.reduceToInt] at h9; omega
    refine lv_aload_n hx hb dX12_names_30 rfl (lv_at hl 1 rfl) ?_
    refine va_get (D := D) (ci := 11) (v := .ref (ad 34)) (C := RX12) (T := TX12) (N := 85) hx hb hts inX12 hown hK hP 0 mwd_o0 rfl 34 (by decide) fl78 (fun _ h9 => h9) rfl dX12_names_31 ?_
    refine lv_aload_n hx hb dX12_names_34 rfl (lv_at hl 1 rfl) ?_
    refine va_get (D := D) (ci := 11) (v := .int (σ.1 33)) (C := RX12) (T := TX12) (N := 85) hx hb hts inX12 hown hK hP 0 mwd_o0 rfl 33 (by decide) fl249 (fun _ h9 => h9) rfl dX12_names_35 ?_
    refine lv_lload_n hx hb dX12_names_38 rfl (lv_at hl 0 rfl) ?_
    refine va_last hx hb hK hP hD hS 22 3 mwd_a22 rfl (x_in (by omega) (by omega)) dX12_names_39 (fun H locs hP hD hS => ?_)
    obtain ⟨f_8, ef_8⟩ : ∃ z9 : Nat → Int64, z9 = (vp_updL (σ.2.2.2 34) (Int32.toNatClampNeg (σ.1 33)) r_1) := ⟨_, rfl⟩
    have hP : va_P D vwCl (mwd y ad zw (tJ (sI (sI (sI (sI (sI σ 2 n_2) 4 n_3) 5 n_4) 6 n_5) 23 n_6) 34 f_8)) H := by rw [ef_8]; exact x_trP hP mwd_s22
    have hD : va_D A (mwd y ad zw (tJ (sI (sI (sI (sI (sI σ 2 n_2) 4 n_3) 5 n_4) 6 n_5) 23 n_6) 34 f_8)) := by rw [ef_8]; exact x_trD hD mwd_s22
    refine lv_aload_n hx hb dX12_names_40 rfl (lv_at hl 1 rfl) ?_
    refine va_get (D := D) (ci := 11) (v := .ref (ad 35)) (C := RX12) (T := TX12) (N := 85) hx hb hts inX12 hown hK hP 0 mwd_o0 rfl 35 (by decide) fl82 (fun _ h9 => h9) rfl dX12_names_41 ?_
    refine lv_aload_n hx hb dX12_names_44 rfl (lv_at hl 1 rfl) ?_
    refine va_get (D := D) (ci := 11) (v := .int (σ.1 33)) (C := RX12) (T := TX12) (N := 85) hx hb hts inX12 hown hK hP 0 mwd_o0 rfl 33 (by decide) fl249 (fun _ h9 => h9) rfl dX12_names_45 ?_
    refine lv_iload_n hx hb dX12_names_48 rfl (lv_at hl 2 rfl) ?_
    refine va_iast hx hb hK hP hD hS 23 2 mwd_a23 rfl (x_in (by omega) (by omega)) dX12_names_49 (fun H locs hP hD hS => ?_)
    obtain ⟨f_9, ef_9⟩ : ∃ z9 : Nat → Int32, z9 = (upd (σ.2.2.1 35) (Int32.toNatClampNeg (σ.1 33)) k) := ⟨_, rfl⟩
    have hP : va_P D vwCl (mwd y ad zw (tI (tJ (sI (sI (sI (sI (sI σ 2 n_2) 4 n_3) 5 n_4) 6 n_5) 23 n_6) 34 f_8) 35 f_9)) H := by rw [ef_9]; exact x_trP hP mwd_s23
    have hD : va_D A (mwd y ad zw (tI (tJ (sI (sI (sI (sI (sI σ 2 n_2) 4 n_3) 5 n_4) 6 n_5) 23 n_6) 34 f_8) 35 f_9)) := by rw [ef_9]; exact x_trD hD mwd_s23
    have hvf_9 : bI f_9 0 23 := by rw [ef_9]; exact b_upd hB35 (by omega) (by omega)
    refine lv_aload_n hx hb dX12_names_50 rfl (lv_at hl 1 rfl) ?_
    refine lv_dup hx hb dX12_names_51 rfl ?_
    refine va_get (D := D) (ci := 11) (v := .int (σ.1 33)) (C := RX12) (T := TX12) (N := 85) hx hb hts inX12 hown hK hP 0 mwd_o0 rfl 33 (by decide) fl249 (fun _ h9 => h9) rfl dX12_names_52 ?_
    refine lv_iconst (v := 1) hx hb dX12_names_55 (by decide) ?_
    refine lv_iadd hx hb dX12_names_56 ?_
    refine lv_topi (fun i_10 ei_10 => ?_)
    have vi_10 : i_10.toInt = (σ.1 33).toInt + 1 := by have h9 := x_add ei_10 (by omega) (by omega); omega
    refine va_put (D := D) (ci := 11) (v := .int i_10) (ty := .int) (C := RX12) (T := TX12) (N := 85) hx hb hts inX12 tyX12 tyX12_ok nmX12 hown hK hP hD hS 0 mwd_o0 rfl 33 (by decide) fl249 (fun _ h9 => h9) rfl (by decide +kernel) rfl rfl (Nat.le_of_ble_eq_true rfl) dX12_names_57 (fun H locs hP hD hS => ?_)
    have hP : va_P D vwCl (mwd y ad zw (sI (tI (tJ (sI (sI (sI (sI (sI σ 2 n_2) 4 n_3) 5 n_4) 6 n_5) 23 n_6) 34 f_8) 35 f_9) 33 i_10)) H := x_trP hP mwd_p0_33
    have hD : va_D A (mwd y ad zw (sI (tI (tJ (sI (sI (sI (sI (sI σ 2 n_2) 4 n_3) 5 n_4) 6 n_5) 23 n_6) 34 f_8) 35 f_9) 33 i_10)) := x_trD hD mwd_p0_33
    have hP : va_P D vwCl (mwd y ad zw (tI (tJ (sI (sI (sI (sI (sI (sI σ 2 n_2) 4 n_3) 5 n_4) 6 n_5) 23 n_6) 33 i_10) 34 f_8) 35 f_9)) H := hP
    have hD : va_D A (mwd y ad zw (tI (tJ (sI (sI (sI (sI (sI (sI σ 2 n_2) 4 n_3) 5 n_4) 6 n_5) 23 n_6) 33 i_10) 34 f_8) 35 f_9)) := hD
    exact x_vretW (u := (n_2, n_3, n_4, n_5, n_6, i_10, f_8, f_9)) hx hb hr hQ (by (try dsimp only); exact ⟨⟨by omega, by omega, by omega, by omega⟩, hvf_9⟩) hP hD hK hS dX12_names_60 hlocks
  · have kc_7 : n_4.toInt = 0 := by have h9 := c_7; simp only [ge_iff_le, gt_iff_lt, x_lt, x_le, x_eq, ne_eq, Int32.not_lt, Int32.not_le] at h9; simp only [Int32.reduceToInt] at h9; omega
    refine lv_aload_n hx hb dX12_names_12 rfl (lv_at hl 1 rfl) ?_
    refine lv_lload_n hx hb dX12_names_13 rfl (lv_at hl 0 rfl) ?_
    refine x_calliW (va_runV (As := [.long r_1]) (rest := []) ⟨hx, hb, hml, hown, hts⟩ (q_asOf l D y H.size ad zw (sI (sI (sI (sI (sI σ 2 n_2) 4 n_3) 5 n_4) 6 n_5) 23 n_6) r_1 (show 0 ≤ ((σ.1 33)).toInt from by first | omega | decide) (show ((σ.1 33)).toInt ≤ 24 from by first | omega | decide) hB35) (cwV 1 hts g_q_names_1 rfl rfl rfl (by decide +kernel) ⟨Nat.le_of_ble_eq_true rfl, Nat.le_of_ble_eq_true rfl⟩) (x_preV (q := (RX12, TX12, 85)) hK hP hD (ci := 11) (q0 := 0) rfl mwd_o0) rfl rfl hl.1 rfl (lv_room (Nat.le_of_ble_eq_true rfl)) dX12_names_14 ⟨Nat.le_of_ble_eq_true rfl, Nat.le_of_ble_eq_true rfl⟩) hP hD hS hA (fun r_11 u H locs hw hP hD hS => ?_)
    try dsimp only at hw
    have hP : va_P D vwCl (mwd y ad zw (sI (sI (sI (sI (sI σ 2 n_2) 4 n_3) 5 n_4) 6 n_5) 23 n_6)) H := hP
    have hD : va_D A (mwd y ad zw (sI (sI (sI (sI (sI σ 2 n_2) 4 n_3) 5 n_4) 6 n_5) 23 n_6)) := hD
    refine lv_iconst (v := (-1)) hx hb dX12_names_17 (by decide) ?_
    refine lv_icmp_eq (tgt := 30) hx hb dX12_names_18 (by decide) (fun c_12 => ?_) (fun c_12 => ?_)
    · have kc_12 : r_11.toInt = (-1) := by have h9 := c_12; simp only [ge_iff_le, gt_iff_lt, x_lt, x_le, x_eq, ne_eq, Int32.not_lt, Int32.not_le] at h9; simp only [Int32.reduceToInt] at h9; omega
      refine lv_aload_n hx hb dX12_names_30 rfl (lv_at hl 1 rfl) ?_
      refine va_get (D := D) (ci := 11) (v := .ref (ad 34)) (C := RX12) (T := TX12) (N := 85) hx hb hts inX12 hown hK hP 0 mwd_o0 rfl 34 (by decide) fl78 (fun _ h9 => h9) rfl dX12_names_31 ?_
      refine lv_aload_n hx hb dX12_names_34 rfl (lv_at hl 1 rfl) ?_
      refine va_get (D := D) (ci := 11) (v := .int (σ.1 33)) (C := RX12) (T := TX12) (N := 85) hx hb hts inX12 hown hK hP 0 mwd_o0 rfl 33 (by decide) fl249 (fun _ h9 => h9) rfl dX12_names_35 ?_
      refine lv_lload_n hx hb dX12_names_38 rfl (lv_at hl 0 rfl) ?_
      refine va_last hx hb hK hP hD hS 22 3 mwd_a22 rfl (x_in (by omega) (by omega)) dX12_names_39 (fun H locs hP hD hS => ?_)
      obtain ⟨f_13, ef_13⟩ : ∃ z9 : Nat → Int64, z9 = (vp_updL (σ.2.2.2 34) (Int32.toNatClampNeg (σ.1 33)) r_1) := ⟨_, rfl⟩
      have hP : va_P D vwCl (mwd y ad zw (tJ (sI (sI (sI (sI (sI σ 2 n_2) 4 n_3) 5 n_4) 6 n_5) 23 n_6) 34 f_13)) H := by rw [ef_13]; exact x_trP hP mwd_s22
      have hD : va_D A (mwd y ad zw (tJ (sI (sI (sI (sI (sI σ 2 n_2) 4 n_3) 5 n_4) 6 n_5) 23 n_6) 34 f_13)) := by rw [ef_13]; exact x_trD hD mwd_s22
      refine lv_aload_n hx hb dX12_names_40 rfl (lv_at hl 1 rfl) ?_
      refine va_get (D := D) (ci := 11) (v := .ref (ad 35)) (C := RX12) (T := TX12) (N := 85) hx hb hts inX12 hown hK hP 0 mwd_o0 rfl 35 (by decide) fl82 (fun _ h9 => h9) rfl dX12_names_41 ?_
      refine lv_aload_n hx hb dX12_names_44 rfl (lv_at hl 1 rfl) ?_
      refine va_get (D := D) (ci := 11) (v := .int (σ.1 33)) (C := RX12) (T := TX12) (N := 85) hx hb hts inX12 hown hK hP 0 mwd_o0 rfl 33 (by decide) fl249 (fun _ h9 => h9) rfl dX12_names_45 ?_
      refine lv_iload_n hx hb dX12_names_48 rfl (lv_at hl 2 rfl) ?_
      refine va_iast hx hb hK hP hD hS 23 2 mwd_a23 rfl (x_in (by omega) (by omega)) dX12_names_49 (fun H locs hP hD hS => ?_)
      obtain ⟨f_14, ef_14⟩ : ∃ z9 : Nat → Int32, z9 = (upd (σ.2.2.1 35) (Int32.toNatClampNeg (σ.1 33)) k) := ⟨_, rfl⟩
      have hP : va_P D vwCl (mwd y ad zw (tI (tJ (sI (sI (sI (sI (sI σ 2 n_2) 4 n_3) 5 n_4) 6 n_5) 23 n_6) 34 f_13) 35 f_14)) H := by rw [ef_14]; exact x_trP hP mwd_s23
      have hD : va_D A (mwd y ad zw (tI (tJ (sI (sI (sI (sI (sI σ 2 n_2) 4 n_3) 5 n_4) 6 n_5) 23 n_6) 34 f_13) 35 f_14)) := by rw [ef_14]; exact x_trD hD mwd_s23
      have hvf_14 : bI f_14 0 23 := by rw [ef_14]; exact b_upd hB35 (by omega) (by omega)
      refine lv_aload_n hx hb dX12_names_50 rfl (lv_at hl 1 rfl) ?_
      refine lv_dup hx hb dX12_names_51 rfl ?_
      refine va_get (D := D) (ci := 11) (v := .int (σ.1 33)) (C := RX12) (T := TX12) (N := 85) hx hb hts inX12 hown hK hP 0 mwd_o0 rfl 33 (by decide) fl249 (fun _ h9 => h9) rfl dX12_names_52 ?_
      refine lv_iconst (v := 1) hx hb dX12_names_55 (by decide) ?_
      refine lv_iadd hx hb dX12_names_56 ?_
      refine lv_topi (fun i_15 ei_15 => ?_)
      have vi_15 : i_15.toInt = (σ.1 33).toInt + 1 := by have h9 := x_add ei_15 (by omega) (by omega); omega
      refine va_put (D := D) (ci := 11) (v := .int i_15) (ty := .int) (C := RX12) (T := TX12) (N := 85) hx hb hts inX12 tyX12 tyX12_ok nmX12 hown hK hP hD hS 0 mwd_o0 rfl 33 (by decide) fl249 (fun _ h9 => h9) rfl (by decide +kernel) rfl rfl (Nat.le_of_ble_eq_true rfl) dX12_names_57 (fun H locs hP hD hS => ?_)
      have hP : va_P D vwCl (mwd y ad zw (sI (tI (tJ (sI (sI (sI (sI (sI σ 2 n_2) 4 n_3) 5 n_4) 6 n_5) 23 n_6) 34 f_13) 35 f_14) 33 i_15)) H := x_trP hP mwd_p0_33
      have hD : va_D A (mwd y ad zw (sI (tI (tJ (sI (sI (sI (sI (sI σ 2 n_2) 4 n_3) 5 n_4) 6 n_5) 23 n_6) 34 f_13) 35 f_14) 33 i_15)) := x_trD hD mwd_p0_33
      have hP : va_P D vwCl (mwd y ad zw (tI (tJ (sI (sI (sI (sI (sI (sI σ 2 n_2) 4 n_3) 5 n_4) 6 n_5) 23 n_6) 33 i_15) 34 f_13) 35 f_14)) H := hP
      have hD : va_D A (mwd y ad zw (tI (tJ (sI (sI (sI (sI (sI (sI σ 2 n_2) 4 n_3) 5 n_4) 6 n_5) 23 n_6) 33 i_15) 34 f_13) 35 f_14)) := hD
      exact x_vretW (u := (n_2, n_3, n_4, n_5, n_6, i_15, f_13, f_14)) hx hb hr hQ (by (try dsimp only); exact ⟨⟨by omega, by omega, by omega, by omega⟩, hvf_14⟩) hP hD hK hS dX12_names_60 hlocks
    · have kc_12 : r_11.toInt ≠ (-1) := by have h9 := c_12; simp only [ge_iff_le, gt_iff_lt, x_lt, x_le, x_eq, ne_eq, Int32.not_lt, Int32.not_le] at h9; simp only [Int32.reduceToInt] at h9; omega
      refine lv_aload_n hx hb dX12_names_21 rfl (lv_at hl 1 rfl) ?_
      refine lv_iconst (v := 3) hx hb dX12_names_22 (by decide) ?_
      refine lv_aload_n hx hb dX12_names_23 rfl (lv_at hl 1 rfl) ?_
      refine va_get (D := D) (ci := 11) (v := .int n_6) (C := RX12) (T := TX12) (N := 85) hx hb hts inX12 hown hK hP 0 mwd_o0 rfl 23 (by decide) fl239 (fun _ h9 => h9) rfl dX12_names_24 ?_
      refine x_callvW (va_runV (As := [.int 3, .int n_6]) (rest := []) ⟨hx, hb, hml, hown, hts⟩ (q_fail l D y H.size ad zw (sI (sI (sI (sI (sI σ 2 n_2) 4 n_3) 5 n_4) 6 n_5) 23 n_6) 3 n_6) (cwV 2 hts g_q_names_2 rfl rfl rfl (by decide +kernel) ⟨Nat.le_of_ble_eq_true rfl, Nat.le_of_ble_eq_true rfl⟩) (x_preV (q := (RX12, TX12, 85)) hK hP hD (ci := 11) (q0 := 0) rfl mwd_o0) rfl rfl hl.1 rfl (lv_room (Nat.le_of_ble_eq_true rfl)) dX12_names_27 ⟨Nat.le_of_ble_eq_true rfl, Nat.le_of_ble_eq_true rfl⟩) hP hD hS hA (fun u H locs hw hP hD hS => ?_)
      obtain ⟨b_16, b_17⟩ := u
      try dsimp only at hw
      have hP : va_P D vwCl (mwd y ad zw (sI (sI (sI (sI (sI (sI (sI σ 2 n_2) 4 n_3) 5 n_4) 6 n_5) 23 n_6) 5 b_16) 6 b_17)) H := hP
      have hD : va_D A (mwd y ad zw (sI (sI (sI (sI (sI (sI (sI σ 2 n_2) 4 n_3) 5 n_4) 6 n_5) 23 n_6) 5 b_16) 6 b_17)) := hD
      have hw : b_16 = if n_4 = 0 then (3 : Int32) else n_4 := hw
      have hbd : b_16.toInt ≠ 0 := by rw [hw]; split <;> first | decide | (rename_i h9; intro h8; exact h9 (Int32.toInt_inj.mp (by rw [h8]; rfl)))
      refine lv_aload_n hx hb dX12_names_30 rfl (lv_at hl 1 rfl) ?_
      refine va_get (D := D) (ci := 11) (v := .ref (ad 34)) (C := RX12) (T := TX12) (N := 85) hx hb hts inX12 hown hK hP 0 mwd_o0 rfl 34 (by decide) fl78 (fun _ h9 => h9) rfl dX12_names_31 ?_
      refine lv_aload_n hx hb dX12_names_34 rfl (lv_at hl 1 rfl) ?_
      refine va_get (D := D) (ci := 11) (v := .int (σ.1 33)) (C := RX12) (T := TX12) (N := 85) hx hb hts inX12 hown hK hP 0 mwd_o0 rfl 33 (by decide) fl249 (fun _ h9 => h9) rfl dX12_names_35 ?_
      refine lv_lload_n hx hb dX12_names_38 rfl (lv_at hl 0 rfl) ?_
      refine va_last hx hb hK hP hD hS 22 3 mwd_a22 rfl (x_in (by omega) (by omega)) dX12_names_39 (fun H locs hP hD hS => ?_)
      obtain ⟨f_18, ef_18⟩ : ∃ z9 : Nat → Int64, z9 = (vp_updL (σ.2.2.2 34) (Int32.toNatClampNeg (σ.1 33)) r_1) := ⟨_, rfl⟩
      have hP : va_P D vwCl (mwd y ad zw (tJ (sI (sI (sI (sI (sI (sI (sI σ 2 n_2) 4 n_3) 5 n_4) 6 n_5) 23 n_6) 5 b_16) 6 b_17) 34 f_18)) H := by rw [ef_18]; exact x_trP hP mwd_s22
      have hD : va_D A (mwd y ad zw (tJ (sI (sI (sI (sI (sI (sI (sI σ 2 n_2) 4 n_3) 5 n_4) 6 n_5) 23 n_6) 5 b_16) 6 b_17) 34 f_18)) := by rw [ef_18]; exact x_trD hD mwd_s22
      refine lv_aload_n hx hb dX12_names_40 rfl (lv_at hl 1 rfl) ?_
      refine va_get (D := D) (ci := 11) (v := .ref (ad 35)) (C := RX12) (T := TX12) (N := 85) hx hb hts inX12 hown hK hP 0 mwd_o0 rfl 35 (by decide) fl82 (fun _ h9 => h9) rfl dX12_names_41 ?_
      refine lv_aload_n hx hb dX12_names_44 rfl (lv_at hl 1 rfl) ?_
      refine va_get (D := D) (ci := 11) (v := .int (σ.1 33)) (C := RX12) (T := TX12) (N := 85) hx hb hts inX12 hown hK hP 0 mwd_o0 rfl 33 (by decide) fl249 (fun _ h9 => h9) rfl dX12_names_45 ?_
      refine lv_iload_n hx hb dX12_names_48 rfl (lv_at hl 2 rfl) ?_
      refine va_iast hx hb hK hP hD hS 23 2 mwd_a23 rfl (x_in (by omega) (by omega)) dX12_names_49 (fun H locs hP hD hS => ?_)
      obtain ⟨f_19, ef_19⟩ : ∃ z9 : Nat → Int32, z9 = (upd (σ.2.2.1 35) (Int32.toNatClampNeg (σ.1 33)) k) := ⟨_, rfl⟩
      have hP : va_P D vwCl (mwd y ad zw (tI (tJ (sI (sI (sI (sI (sI (sI (sI σ 2 n_2) 4 n_3) 5 n_4) 6 n_5) 23 n_6) 5 b_16) 6 b_17) 34 f_18) 35 f_19)) H := by rw [ef_19]; exact x_trP hP mwd_s23
      have hD : va_D A (mwd y ad zw (tI (tJ (sI (sI (sI (sI (sI (sI (sI σ 2 n_2) 4 n_3) 5 n_4) 6 n_5) 23 n_6) 5 b_16) 6 b_17) 34 f_18) 35 f_19)) := by rw [ef_19]; exact x_trD hD mwd_s23
      have hvf_19 : bI f_19 0 23 := by rw [ef_19]; exact b_upd hB35 (by omega) (by omega)
      refine lv_aload_n hx hb dX12_names_50 rfl (lv_at hl 1 rfl) ?_
      refine lv_dup hx hb dX12_names_51 rfl ?_
      refine va_get (D := D) (ci := 11) (v := .int (σ.1 33)) (C := RX12) (T := TX12) (N := 85) hx hb hts inX12 hown hK hP 0 mwd_o0 rfl 33 (by decide) fl249 (fun _ h9 => h9) rfl dX12_names_52 ?_
      refine lv_iconst (v := 1) hx hb dX12_names_55 (by decide) ?_
      refine lv_iadd hx hb dX12_names_56 ?_
      refine lv_topi (fun i_20 ei_20 => ?_)
      have vi_20 : i_20.toInt = (σ.1 33).toInt + 1 := by have h9 := x_add ei_20 (by omega) (by omega); omega
      refine va_put (D := D) (ci := 11) (v := .int i_20) (ty := .int) (C := RX12) (T := TX12) (N := 85) hx hb hts inX12 tyX12 tyX12_ok nmX12 hown hK hP hD hS 0 mwd_o0 rfl 33 (by decide) fl249 (fun _ h9 => h9) rfl (by decide +kernel) rfl rfl (Nat.le_of_ble_eq_true rfl) dX12_names_57 (fun H locs hP hD hS => ?_)
      have hP : va_P D vwCl (mwd y ad zw (sI (tI (tJ (sI (sI (sI (sI (sI (sI (sI σ 2 n_2) 4 n_3) 5 n_4) 6 n_5) 23 n_6) 5 b_16) 6 b_17) 34 f_18) 35 f_19) 33 i_20)) H := x_trP hP mwd_p0_33
      have hD : va_D A (mwd y ad zw (sI (tI (tJ (sI (sI (sI (sI (sI (sI (sI σ 2 n_2) 4 n_3) 5 n_4) 6 n_5) 23 n_6) 5 b_16) 6 b_17) 34 f_18) 35 f_19) 33 i_20)) := x_trD hD mwd_p0_33
      have hP : va_P D vwCl (mwd y ad zw (tI (tJ (sI (sI (sI (sI (sI (sI σ 2 n_2) 4 n_3) 5 b_16) 6 b_17) 23 n_6) 33 i_20) 34 f_18) 35 f_19)) H := hP
      have hD : va_D A (mwd y ad zw (tI (tJ (sI (sI (sI (sI (sI (sI σ 2 n_2) 4 n_3) 5 b_16) 6 b_17) 23 n_6) 33 i_20) 34 f_18) 35 f_19)) := hD
      exact x_vretW (u := (n_2, n_3, b_16, b_17, n_6, i_20, f_18, f_19)) hx hb hr hQ (by (try dsimp only); exact ⟨⟨by omega, by omega, by omega, by omega⟩, hvf_19⟩) hP hD hK hS dX12_names_60 hlocks

def v_q_nameTold : List Cond := .code yX12_nameTold cX12_nameTold 4 (some .int) :: ([.fieldLink RX12 191 "SlopeRunnerModel" "bad" "I", .fieldLink RX12 239 "SlopeRunnerModel" "namePlace" "I"] ++ ((wsV RX12 252 RX12 yX12_name v_q_name) ++ ((wsV RX12 256 RX12 yX12_asOf v_q_asOf) ++ ((wsV RX12 221 RX12 yX12_fail v_q_fail) ++ wsX120))))
theorem g_q_nameTold_0 : GoodIn v_q_nameTold (wsV RX12 252 RX12 yX12_name v_q_name) := goodIn_sub (fun w h => List.mem_cons_of_mem _ (List.mem_append_right _ (List.mem_append_left _ h))) (by decide +kernel)
theorem g_q_nameTold_1 : GoodIn v_q_nameTold (wsV RX12 256 RX12 yX12_asOf v_q_asOf) := goodIn_sub (fun w h => List.mem_cons_of_mem _ (List.mem_append_right _ (List.mem_append_right _ (List.mem_append_left _ h)))) (by decide +kernel)
theorem g_q_nameTold_2 : GoodIn v_q_nameTold (wsV RX12 221 RX12 yX12_fail v_q_fail) := goodIn_sub (fun w h => List.mem_cons_of_mem _ (List.mem_append_right _ (List.mem_append_right _ (List.mem_append_right _ (List.mem_append_left _ h))))) (by decide +kernel)
set_option maxHeartbeats 4000000 in
set_option maxRecDepth 100000 in
theorem q_nameTold (l : Launch) (D : va_G) (y : Nat → ClassId) (sz : Nat) (ad : Nat → Nat) (zw : Nat → Nat → Int32) (σ : OS) (hn0 : 0 ≤ (σ.1 33).toInt) (hn1 : (σ.1 33).toInt ≤ 24) (ha0 : 0 ≤ (σ.1 2).toInt) (ha1 : (σ.1 2).toInt ≤ (σ.1 3).toInt) (ha2 : (σ.1 3).toInt ≤ 700) (hB35 : bI (σ.2.2.1 35) 0 23) : Met l yX12_nameTold v_q_nameTold ({ frames := 4, cells := 0, slots := 0, locals := 86 } : Room) (va_Pc [.ref (ad 1)] (xPre D (xT y) (mwd y ad zw σ) sz)) (va_Qi (fun (r : Int32) (u : Int32 × Int32 × Int32 × Int32 × Int32) => (σ.1 2).toInt ≤ u.1.toInt ∧ u.1.toInt ≤ (σ.1 3).toInt ∧ (u.2.2.1.toInt = 0 → (σ.1 5).toInt = 0 ∧ (σ.1 2).toInt + 1 ≤ u.1.toInt) ∧ 0 ≤ r.toInt ∧ r.toInt ≤ 23) (fun (u : Int32 × Int32 × Int32 × Int32 × Int32) => xB D (xT y) (va_A (mwd y ad zw σ) sz) (mwd y ad zw (sI (sI (sI (sI (sI σ 2 u.1) 4 u.2.1) 5 u.2.2.1) 6 u.2.2.2.1) 23 u.2.2.2.2))) (va_A (mwd y ad zw σ) sz)) 0 0 (va_A (mwd y ad zw σ) sz) := by
  refine x_meti (cc := cX12_nameTold) (maxL := 4) (by decide) rfl (Nat.le_of_ble_eq_true rfl) ?_
  intro p e s m below meth c A H locs Q hx hb hml hown hts hr hlocks hmn hA hP hK hD hS ls hl hQ
  have hl : lv_has ls 4 [(0, .ref (ad 1))] := hl
  have fl191 := hts (.fieldLink RX12 191 "SlopeRunnerModel" "bad" "I") (List.mem_of_getElem? (i := 1) rfl)
  have inX12 : ∀ w ∈ wsX120, w ∈ v_q_nameTold := (fun w h => List.mem_cons_of_mem _ (List.mem_append_right _ (List.mem_append_right _ (List.mem_append_right _ (List.mem_append_right _ h)))))
  have kk_0 : (0 : Int32).toInt = 0 := rfl
  have kk_m1 : ((-1) : Int32).toInt = -1 := rfl
  have fl239 := hts (.fieldLink RX12 239 "SlopeRunnerModel" "namePlace" "I") (List.mem_of_getElem? (i := 2) rfl)
  have kk_3 : (3 : Int32).toInt = 3 := rfl
  refine lv_aload_n hx hb dX12_nameTold_0 rfl (lv_at hl 0 rfl) ?_
  refine x_calllW (va_runV (As := []) (rest := []) ⟨hx, hb, hml, hown, hts⟩ (q_name l D y H.size ad zw σ (show 0 ≤ ((σ.1 2)).toInt from by first | omega | decide) (show ((σ.1 2)).toInt ≤ ((σ.1 3)).toInt from by first | omega | decide) (show ((σ.1 3)).toInt ≤ 700 from by first | omega | decide)) (cwV 0 hts g_q_nameTold_0 rfl rfl rfl (by decide +kernel) ⟨Nat.le_of_ble_eq_true rfl, Nat.le_of_ble_eq_true rfl⟩) (x_preV (q := (RX12, TX12, 85)) hK hP hD (ci := 11) (q0 := 0) rfl mwd_o0) rfl rfl hl.1 rfl (lv_room (Nat.le_of_ble_eq_true rfl)) dX12_nameTold_1 ⟨Nat.le_of_ble_eq_true rfl, Nat.le_of_ble_eq_true rfl⟩) hP hD hS hA (fun r_1 u H locs hw hP hD hS => ?_)
  obtain ⟨n_2, n_3, n_4, n_5, n_6⟩ := u
  try dsimp only at hw
  have hP : va_P D vwCl (mwd y ad zw (sI (sI (sI (sI (sI σ 2 n_2) 4 n_3) 5 n_4) 6 n_5) 23 n_6)) H := hP
  have hD : va_D A (mwd y ad zw (sI (sI (sI (sI (sI σ 2 n_2) 4 n_3) 5 n_4) 6 n_5) 23 n_6)) := hD
  have hw : ((σ.1 2)).toInt ≤ n_2.toInt ∧ n_2.toInt ≤ ((σ.1 3)).toInt ∧ (n_4.toInt = 0 → ((σ.1 5)).toInt = 0 ∧ ((σ.1 2)).toInt + 1 ≤ n_2.toInt) := hw
  refine lv_lstore_n (lv' := [(1, .long r_1), (0, .ref (ad 1))]) hx hb dX12_nameTold_4 rfl hl (by decide) rfl (fun ls hl => ?_)
  refine lv_aload_n hx hb dX12_nameTold_5 rfl (lv_at hl 1 rfl) ?_
  refine va_get (D := D) (ci := 11) (v := .int n_4) (C := RX12) (T := TX12) (N := 85) hx hb hts inX12 hown hK hP 0 mwd_o0 rfl 5 (by decide) fl191 (fun _ h9 => h9) rfl dX12_nameTold_6 ?_
  refine lv_if_eq (tgt := 14) hx hb dX12_nameTold_9 (by decide) (fun c_7 => ?_) (fun c_7 => ?_)
  · have kc_7 : n_4.toInt = 0 := by have h9 := c_7; simp only [ge_iff_le, gt_iff_lt, x_lt, x_le, x_eq, ne_eq, Int32.not_lt, Int32.not_le] at h9; simp only [Int32.reduceToInt] at h9; omega
    refine lv_aload_n hx hb dX12_nameTold_14 rfl (lv_at hl 1 rfl) ?_
    refine lv_lload_n hx hb dX12_nameTold_15 rfl (lv_at hl 0 rfl) ?_
    refine x_calliW (va_runV (As := [.long r_1]) (rest := []) ⟨hx, hb, hml, hown, hts⟩ (q_asOf l D y H.size ad zw (sI (sI (sI (sI (sI σ 2 n_2) 4 n_3) 5 n_4) 6 n_5) 23 n_6) r_1 (show 0 ≤ ((σ.1 33)).toInt from by first | omega | decide) (show ((σ.1 33)).toInt ≤ 24 from by first | omega | decide) hB35) (cwV 1 hts g_q_nameTold_1 rfl rfl rfl (by decide +kernel) ⟨Nat.le_of_ble_eq_true rfl, Nat.le_of_ble_eq_true rfl⟩) (x_preV (q := (RX12, TX12, 85)) hK hP hD (ci := 11) (q0 := 0) rfl mwd_o0) rfl rfl hl.1 rfl (lv_room (Nat.le_of_ble_eq_true rfl)) dX12_nameTold_16 ⟨Nat.le_of_ble_eq_true rfl, Nat.le_of_ble_eq_true rfl⟩) hP hD hS hA (fun r_8 u H locs hw hP hD hS => ?_)
    try dsimp only at hw
    have hP : va_P D vwCl (mwd y ad zw (sI (sI (sI (sI (sI σ 2 n_2) 4 n_3) 5 n_4) 6 n_5) 23 n_6)) H := hP
    have hD : va_D A (mwd y ad zw (sI (sI (sI (sI (sI σ 2 n_2) 4 n_3) 5 n_4) 6 n_5) 23 n_6)) := hD
    refine lv_istore_n (lv' := [(3, .int r_8), (1, .long r_1), (0, .ref (ad 1))]) hx hb dX12_nameTold_19 rfl hl (by decide) rfl (fun ls hl => ?_)
    refine lv_iload_n hx hb dX12_nameTold_20 rfl (lv_at hl 0 rfl) ?_
    refine lv_iconst (v := (-1)) hx hb dX12_nameTold_21 (by decide) ?_
    refine lv_icmp_ne (tgt := 34) hx hb dX12_nameTold_22 (by decide) (fun c_9 => ?_) (fun c_9 => ?_)
    · have kc_9 : r_8.toInt ≠ (-1) := by have h9 := c_9; simp only [ge_iff_le, gt_iff_lt, x_lt, x_le, x_eq, ne_eq, Int32.not_lt, Int32.not_le] at h9; simp only [Int32.reduceToInt] at h9; omega
      refine lv_iload_n hx hb dX12_nameTold_34 rfl (lv_at hl 0 rfl) ?_
      refine lv_iconst (v := (-1)) hx hb dX12_nameTold_35 (by decide) ?_
      refine lv_icmp_ne (tgt := 43) hx hb dX12_nameTold_36 (by decide) (fun c_10 => ?_) (fun c_10 => ?_)
      · have kc_10 : r_8.toInt ≠ (-1) := by have h9 := c_10; simp only [ge_iff_le, gt_iff_lt, x_lt, x_le, x_eq, ne_eq, Int32.not_lt, Int32.not_le] at h9; simp only [Int32.reduceToInt] at h9; omega
        refine lv_iload_n hx hb dX12_nameTold_43 rfl (lv_at hl 0 rfl) ?_
        exact x_iretW (v := r_8) (u := (n_2, n_3, n_4, n_5, n_6)) hx hb hr hQ (by (try dsimp only); exact ⟨by omega, by omega, by omega, by omega, by omega⟩) hP hD hK hS dX12_nameTold_44 hlocks
      · have kc_10 : r_8.toInt = (-1) := by have h9 := c_10; simp only [ge_iff_le, gt_iff_lt, x_lt, x_le, x_eq, ne_eq, Int32.not_lt, Int32.not_le] at h9; simp only [Int32.reduceToInt] at h9; omega
        refine lv_iconst (v := 0) hx hb dX12_nameTold_39 (by decide) ?_
        refine lv_goto (tgt := 44) hx hb dX12_nameTold_40 (by decide) ?_
        exact x_iretW (v := 0) (u := (n_2, n_3, n_4, n_5, n_6)) hx hb hr hQ (by (try dsimp only); exact ⟨by omega, by omega, by omega, by omega, by omega⟩) hP hD hK hS dX12_nameTold_44 hlocks
    · have kc_9 : r_8.toInt = (-1) := by have h9 := c_9; simp only [ge_iff_le, gt_iff_lt, x_lt, x_le, x_eq, ne_eq, Int32.not_lt, Int32.not_le] at h9; simp only [Int32.reduceToInt] at h9; omega
      refine lv_aload_n hx hb dX12_nameTold_25 rfl (lv_at hl 2 rfl) ?_
      refine lv_iconst (v := 3) hx hb dX12_nameTold_26 (by decide) ?_
      refine lv_aload_n hx hb dX12_nameTold_27 rfl (lv_at hl 2 rfl) ?_
      refine va_get (D := D) (ci := 11) (v := .int n_6) (C := RX12) (T := TX12) (N := 85) hx hb hts inX12 hown hK hP 0 mwd_o0 rfl 23 (by decide) fl239 (fun _ h9 => h9) rfl dX12_nameTold_28 ?_
      refine x_callvW (va_runV (As := [.int 3, .int n_6]) (rest := []) ⟨hx, hb, hml, hown, hts⟩ (q_fail l D y H.size ad zw (sI (sI (sI (sI (sI σ 2 n_2) 4 n_3) 5 n_4) 6 n_5) 23 n_6) 3 n_6) (cwV 2 hts g_q_nameTold_2 rfl rfl rfl (by decide +kernel) ⟨Nat.le_of_ble_eq_true rfl, Nat.le_of_ble_eq_true rfl⟩) (x_preV (q := (RX12, TX12, 85)) hK hP hD (ci := 11) (q0 := 0) rfl mwd_o0) rfl rfl hl.1 rfl (lv_room (Nat.le_of_ble_eq_true rfl)) dX12_nameTold_31 ⟨Nat.le_of_ble_eq_true rfl, Nat.le_of_ble_eq_true rfl⟩) hP hD hS hA (fun u H locs hw hP hD hS => ?_)
      obtain ⟨b_11, b_12⟩ := u
      try dsimp only at hw
      have hP : va_P D vwCl (mwd y ad zw (sI (sI (sI (sI (sI (sI (sI σ 2 n_2) 4 n_3) 5 n_4) 6 n_5) 23 n_6) 5 b_11) 6 b_12)) H := hP
      have hD : va_D A (mwd y ad zw (sI (sI (sI (sI (sI (sI (sI σ 2 n_2) 4 n_3) 5 n_4) 6 n_5) 23 n_6) 5 b_11) 6 b_12)) := hD
      have hw : b_11 = if n_4 = 0 then (3 : Int32) else n_4 := hw
      have hbd : b_11.toInt ≠ 0 := by rw [hw]; split <;> first | decide | (rename_i h9; intro h8; exact h9 (Int32.toInt_inj.mp (by rw [h8]; rfl)))
      refine lv_iload_n hx hb dX12_nameTold_34 rfl (lv_at hl 0 rfl) ?_
      refine lv_iconst (v := (-1)) hx hb dX12_nameTold_35 (by decide) ?_
      refine lv_icmp_ne (tgt := 43) hx hb dX12_nameTold_36 (by decide) (fun c_13 => ?_) (fun c_13 => ?_)
      · have kc_13 : r_8.toInt ≠ (-1) := by have h9 := c_13; simp only [ge_iff_le, gt_iff_lt, x_lt, x_le, x_eq, ne_eq, Int32.not_lt, Int32.not_le] at h9; simp only [Int32.reduceToInt] at h9; omega
        refine lv_iload_n hx hb dX12_nameTold_43 rfl (lv_at hl 0 rfl) ?_
        have hP : va_P D vwCl (mwd y ad zw (sI (sI (sI (sI (sI σ 2 n_2) 4 n_3) 5 b_11) 6 b_12) 23 n_6)) H := hP
        have hD : va_D A (mwd y ad zw (sI (sI (sI (sI (sI σ 2 n_2) 4 n_3) 5 b_11) 6 b_12) 23 n_6)) := hD
        exact x_iretW (v := r_8) (u := (n_2, n_3, b_11, b_12, n_6)) hx hb hr hQ (by (try dsimp only); exact ⟨by omega, by omega, by omega, by omega, by omega⟩) hP hD hK hS dX12_nameTold_44 hlocks
      · have kc_13 : r_8.toInt = (-1) := by have h9 := c_13; simp only [ge_iff_le, gt_iff_lt, x_lt, x_le, x_eq, ne_eq, Int32.not_lt, Int32.not_le] at h9; simp only [Int32.reduceToInt] at h9; omega
        refine lv_iconst (v := 0) hx hb dX12_nameTold_39 (by decide) ?_
        refine lv_goto (tgt := 44) hx hb dX12_nameTold_40 (by decide) ?_
        have hP : va_P D vwCl (mwd y ad zw (sI (sI (sI (sI (sI σ 2 n_2) 4 n_3) 5 b_11) 6 b_12) 23 n_6)) H := hP
        have hD : va_D A (mwd y ad zw (sI (sI (sI (sI (sI σ 2 n_2) 4 n_3) 5 b_11) 6 b_12) 23 n_6)) := hD
        exact x_iretW (v := 0) (u := (n_2, n_3, b_11, b_12, n_6)) hx hb hr hQ (by (try dsimp only); exact ⟨by omega, by omega, by omega, by omega, by omega⟩) hP hD hK hS dX12_nameTold_44 hlocks
  · have kc_7 : n_4.toInt ≠ 0 := by have h9 := c_7; simp only [ge_iff_le, gt_iff_lt, x_lt, x_le, x_eq, ne_eq, Int32.not_lt, Int32.not_le] at h9; simp only [Int32.reduceToInt] at h9; omega
    refine lv_iconst (v := 0) hx hb dX12_nameTold_12 (by decide) ?_
    exact x_iretW (v := 0) (u := (n_2, n_3, n_4, n_5, n_6)) hx hb hr hQ (by (try dsimp only); exact ⟨by omega, by omega, by omega, by omega, by omega⟩) hP hD hK hS dX12_nameTold_13 hlocks

def v_q_opensOne : List Cond := .code yX12_opensOne cX12_opensOne 3 none :: ([.fieldLink RX12 260 "SlopeRunnerModel" "open" "I", .fieldLink RX12 75 "SlopeRunnerModel" "wait" "[I", .fieldLink RX12 263 "SlopeRunnerModel" "waits" "I"] ++ ((wsV RX12 221 RX12 yX12_fail v_q_fail) ++ wsX120))
theorem g_q_opensOne_0 : GoodIn v_q_opensOne (wsV RX12 221 RX12 yX12_fail v_q_fail) := goodIn_sub (fun w h => List.mem_cons_of_mem _ (List.mem_append_right _ (List.mem_append_left _ h))) (by decide +kernel)
set_option maxHeartbeats 4000000 in
set_option maxRecDepth 100000 in
theorem q_opensOne (l : Launch) (D : va_G) (y : Nat → ClassId) (sz : Nat) (ad : Nat → Nat) (zw : Nat → Nat → Int32) (σ : OS) (v q : Int32) (ho0 : 0 ≤ (σ.1 32).toInt) (ho1 : (σ.1 32).toInt ≤ 8) (hw0 : 0 ≤ (σ.1 31).toInt) (hw1 : (σ.1 31).toInt < 800) : Met l yX12_opensOne v_q_opensOne ({ frames := 1, cells := 0, slots := 0, locals := 22 } : Room) (va_Pc [.ref (ad 1), .int v, .int q] (xPre D (xT y) (mwd y ad zw σ) sz)) (va_Qv (fun (u : Int32 × Int32 × Int32 × (Nat → Int32) × Int32) => (u.1.toInt ≠ 0 ∧ u.2.2.2.2 = (σ.1 31) ∧ u.2.2.2.1 = (σ.2.2.1 30) ∧ u.2.2.1 = (σ.1 32)) ∨ (u.1 = (σ.1 5) ∧ u.2.2.1.toInt = (σ.1 32).toInt + 1 ∧ u.2.2.1.toInt ≤ 8 ∧ u.2.2.2.2.toInt = (σ.1 31).toInt + 1 ∧ u.2.2.2.1 = upd (σ.2.2.1 30) (σ.1 31).toInt.toNat v)) (fun (u : Int32 × Int32 × Int32 × (Nat → Int32) × Int32) => xB D (xT y) (va_A (mwd y ad zw σ) sz) (mwd y ad zw (sI (tI (sI (sI (sI σ 5 u.1) 6 u.2.1) 32 u.2.2.1) 30 u.2.2.2.1) 31 u.2.2.2.2))) (va_A (mwd y ad zw σ) sz)) 0 0 (va_A (mwd y ad zw σ) sz) := by
  refine x_metv (cc := cX12_opensOne) (maxL := 3) (by decide) rfl (Nat.le_of_ble_eq_true rfl) ?_
  intro p e s m below meth c A H locs Q hx hb hml hown hts hr hlocks hmn hA hP hK hD hS ls hl hQ
  have hl : lv_has ls 3 [(0, .ref (ad 1)), (1, .int v), (2, .int q)] := hl
  have fl260 := hts (.fieldLink RX12 260 "SlopeRunnerModel" "open" "I") (List.mem_of_getElem? (i := 1) rfl)
  have inX12 : ∀ w ∈ wsX120, w ∈ v_q_opensOne := (fun w h => List.mem_cons_of_mem _ (List.mem_append_right _ (List.mem_append_right _ h)))
  have kk_8 : (8 : Int32).toInt = 8 := rfl
  have kk_1 : (1 : Int32).toInt = 1 := rfl
  have fl75 := hts (.fieldLink RX12 75 "SlopeRunnerModel" "wait" "[I") (List.mem_of_getElem? (i := 2) rfl)
  have fl263 := hts (.fieldLink RX12 263 "SlopeRunnerModel" "waits" "I") (List.mem_of_getElem? (i := 3) rfl)
  have kk_4 : (4 : Int32).toInt = 4 := rfl
  refine lv_aload_n hx hb dX12_opensOne_0 rfl (lv_at hl 0 rfl) ?_
  refine va_get (D := D) (ci := 11) (v := .int (σ.1 32)) (C := RX12) (T := TX12) (N := 85) hx hb hts inX12 hown hK hP 0 mwd_o0 rfl 32 (by decide) fl260 (fun _ h9 => h9) rfl dX12_opensOne_1 ?_
  refine lv_bipush (v := 8) hx hb dX12_opensOne_4 (by decide) ?_
  refine lv_icmp_ne (tgt := 16) hx hb dX12_opensOne_6 (by decide) (fun c_1 => ?_) (fun c_1 => ?_)
  · have kc_1 : (σ.1 32).toInt ≠ 8 := by have h9 := c_1; simp only [ge_iff_le, gt_iff_lt, x_lt, x_le, x_eq, ne_eq, Int32.not_lt, Int32.not_le] at h9; simp only [Int32.reduceToInt] at h9; omega
    refine lv_aload_n hx hb dX12_opensOne_16 rfl (lv_at hl 0 rfl) ?_
    refine lv_dup hx hb dX12_opensOne_17 rfl ?_
    refine va_get (D := D) (ci := 11) (v := .int (σ.1 32)) (C := RX12) (T := TX12) (N := 85) hx hb hts inX12 hown hK hP 0 mwd_o0 rfl 32 (by decide) fl260 (fun _ h9 => h9) rfl dX12_opensOne_18 ?_
    refine lv_iconst (v := 1) hx hb dX12_opensOne_21 (by decide) ?_
    refine lv_iadd hx hb dX12_opensOne_22 ?_
    refine lv_topi (fun i_2 ei_2 => ?_)
    have vi_2 : i_2.toInt = (σ.1 32).toInt + 1 := by have h9 := x_add ei_2 (by omega) (by omega); omega
    refine va_put (D := D) (ci := 11) (v := .int i_2) (ty := .int) (C := RX12) (T := TX12) (N := 85) hx hb hts inX12 tyX12 tyX12_ok nmX12 hown hK hP hD hS 0 mwd_o0 rfl 32 (by decide) fl260 (fun _ h9 => h9) rfl (by decide +kernel) rfl rfl (Nat.le_of_ble_eq_true rfl) dX12_opensOne_23 (fun H locs hP hD hS => ?_)
    have hP : va_P D vwCl (mwd y ad zw (sI σ 32 i_2)) H := x_trP hP mwd_p0_32
    have hD : va_D A (mwd y ad zw (sI σ 32 i_2)) := x_trD hD mwd_p0_32
    refine lv_aload_n hx hb dX12_opensOne_26 rfl (lv_at hl 0 rfl) ?_
    refine va_get (D := D) (ci := 11) (v := .ref (ad 30)) (C := RX12) (T := TX12) (N := 85) hx hb hts inX12 hown hK hP 0 mwd_o0 rfl 30 (by decide) fl75 (fun _ h9 => h9) rfl dX12_opensOne_27 ?_
    refine lv_aload_n hx hb dX12_opensOne_30 rfl (lv_at hl 0 rfl) ?_
    refine va_get (D := D) (ci := 11) (v := .int (σ.1 31)) (C := RX12) (T := TX12) (N := 85) hx hb hts inX12 hown hK hP 0 mwd_o0 rfl 31 (by decide) fl263 (fun _ h9 => h9) rfl dX12_opensOne_31 ?_
    refine lv_iload_n hx hb dX12_opensOne_34 rfl (lv_at hl 1 rfl) ?_
    refine va_iast hx hb hK hP hD hS 21 2 mwd_a21 rfl (x_in (by omega) (by omega)) dX12_opensOne_35 (fun H locs hP hD hS => ?_)
    obtain ⟨f_3, ef_3⟩ : ∃ z9 : Nat → Int32, z9 = (upd (σ.2.2.1 30) (Int32.toNatClampNeg (σ.1 31)) v) := ⟨_, rfl⟩
    have hP : va_P D vwCl (mwd y ad zw (tI (sI σ 32 i_2) 30 f_3)) H := by rw [ef_3]; exact x_trP hP mwd_s21
    have hD : va_D A (mwd y ad zw (tI (sI σ 32 i_2) 30 f_3)) := by rw [ef_3]; exact x_trD hD mwd_s21
    refine lv_aload_n hx hb dX12_opensOne_36 rfl (lv_at hl 0 rfl) ?_
    refine lv_dup hx hb dX12_opensOne_37 rfl ?_
    refine va_get (D := D) (ci := 11) (v := .int (σ.1 31)) (C := RX12) (T := TX12) (N := 85) hx hb hts inX12 hown hK hP 0 mwd_o0 rfl 31 (by decide) fl263 (fun _ h9 => h9) rfl dX12_opensOne_38 ?_
    refine lv_iconst (v := 1) hx hb dX12_opensOne_41 (by decide) ?_
    refine lv_iadd hx hb dX12_opensOne_42 ?_
    refine lv_topi (fun i_4 ei_4 => ?_)
    have vi_4 : i_4.toInt = (σ.1 31).toInt + 1 := by have h9 := x_add ei_4 (by omega) (by omega); omega
    refine va_put (D := D) (ci := 11) (v := .int i_4) (ty := .int) (C := RX12) (T := TX12) (N := 85) hx hb hts inX12 tyX12 tyX12_ok nmX12 hown hK hP hD hS 0 mwd_o0 rfl 31 (by decide) fl263 (fun _ h9 => h9) rfl (by decide +kernel) rfl rfl (Nat.le_of_ble_eq_true rfl) dX12_opensOne_43 (fun H locs hP hD hS => ?_)
    have hP : va_P D vwCl (mwd y ad zw (sI (tI (sI σ 32 i_2) 30 f_3) 31 i_4)) H := x_trP hP mwd_p0_31
    have hD : va_D A (mwd y ad zw (sI (tI (sI σ 32 i_2) 30 f_3) 31 i_4)) := x_trD hD mwd_p0_31
    have hP : va_P D vwCl (mwd y ad zw (sI (tI (sI (sI (sI σ 5 (σ.1 5)) 6 (σ.1 6)) 32 i_2) 30 f_3) 31 i_4)) H := hP
    have hD : va_D A (mwd y ad zw (sI (tI (sI (sI (sI σ 5 (σ.1 5)) 6 (σ.1 6)) 32 i_2) 30 f_3) 31 i_4)) := hD
    exact x_vretW (u := ((σ.1 5), (σ.1 6), i_2, f_3, i_4)) hx hb hr hQ (by (try dsimp only); exact Or.inr ⟨rfl, by omega, by omega, by omega, by rw [ef_3, x_cl (n := (σ.1 31).toInt.toNat) (by omega)]⟩) hP hD hK hS dX12_opensOne_46 hlocks
  · have kc_1 : (σ.1 32).toInt = 8 := by have h9 := c_1; simp only [ge_iff_le, gt_iff_lt, x_lt, x_le, x_eq, ne_eq, Int32.not_lt, Int32.not_le] at h9; simp only [Int32.reduceToInt] at h9; omega
    refine lv_aload_n hx hb dX12_opensOne_9 rfl (lv_at hl 0 rfl) ?_
    refine lv_iconst (v := 4) hx hb dX12_opensOne_10 (by decide) ?_
    refine lv_iload_n hx hb dX12_opensOne_11 rfl (lv_at hl 2 rfl) ?_
    refine x_callvW (va_runV (As := [.int 4, .int q]) (rest := []) ⟨hx, hb, hml, hown, hts⟩ (q_fail l D y H.size ad zw σ 4 q) (cwV 2 hts g_q_opensOne_0 rfl rfl rfl (by decide +kernel) ⟨Nat.le_of_ble_eq_true rfl, Nat.le_of_ble_eq_true rfl⟩) (x_preV (q := (RX12, TX12, 85)) hK hP hD (ci := 11) (q0 := 0) rfl mwd_o0) rfl rfl hl.1 rfl (lv_room (Nat.le_of_ble_eq_true rfl)) dX12_opensOne_12 ⟨Nat.le_of_ble_eq_true rfl, Nat.le_of_ble_eq_true rfl⟩) hP hD hS hA (fun u H locs hw hP hD hS => ?_)
    obtain ⟨b_5, b_6⟩ := u
    try dsimp only at hw
    have hP : va_P D vwCl (mwd y ad zw (sI (sI σ 5 b_5) 6 b_6)) H := hP
    have hD : va_D A (mwd y ad zw (sI (sI σ 5 b_5) 6 b_6)) := hD
    have hw : b_5 = if (σ.1 5) = 0 then (4 : Int32) else (σ.1 5) := hw
    have hbd : b_5.toInt ≠ 0 := by rw [hw]; split <;> first | decide | (rename_i h9; intro h8; exact h9 (Int32.toInt_inj.mp (by rw [h8]; rfl)))
    have hP : va_P D vwCl (mwd y ad zw (sI (tI (sI (sI (sI σ 5 b_5) 6 b_6) 32 (σ.1 32)) 30 (σ.2.2.1 30)) 31 (σ.1 31))) H := hP
    have hD : va_D A (mwd y ad zw (sI (tI (sI (sI (sI σ 5 b_5) 6 b_6) 32 (σ.1 32)) 30 (σ.2.2.1 30)) 31 (σ.1 31))) := hD
    exact x_vretW (u := (b_5, b_6, (σ.1 32), (σ.2.2.1 30), (σ.1 31))) hx hb hr hQ (by (try dsimp only); exact Or.inl ⟨by omega, rfl, rfl, rfl⟩) hP hD hK hS dX12_opensOne_15 hlocks

def v_q_isOn : List Cond := .code yX12_isOn cX12_isOn 2 (some .boolean) :: ([.fieldLink RX12 263 "SlopeRunnerModel" "waits" "I", .fieldLink RX12 75 "SlopeRunnerModel" "wait" "[I"] ++ wsX120)
set_option maxHeartbeats 4000000 in
set_option maxRecDepth 100000 in
theorem q_isOn (l : Launch) (D : va_G) (y : Nat → ClassId) (sz : Nat) (ad : Nat → Nat) (zw : Nat → Nat → Int32) (σ : OS) (v : Int32) (hw0 : 0 ≤ (σ.1 31).toInt) (hw1 : (σ.1 31).toInt ≤ 800) : Met l yX12_isOn v_q_isOn ({ frames := 0, cells := 0, slots := 0, locals := 0 } : Room) (va_Pc [.ref (ad 1), .int v] (xPre D (xT y) (mwd y ad zw σ) sz)) (va_Qi (fun (r : Int32) (_ : Unit) => (r.toInt = 0 ∧ ((σ.1 31).toInt ≤ 0 ∨ ((σ.2.2.1 30) ((σ.1 31).toInt.toNat - 1)).toInt ≠ v.toInt)) ∨ (r.toInt = 1 ∧ 1 ≤ (σ.1 31).toInt ∧ ((σ.2.2.1 30) ((σ.1 31).toInt.toNat - 1)).toInt = v.toInt)) (fun (u : Unit) => xB D (xT y) (va_A (mwd y ad zw σ) sz) (mwd y ad zw σ)) (va_A (mwd y ad zw σ) sz)) 0 0 (va_A (mwd y ad zw σ) sz) := by
  refine x_meti (cc := cX12_isOn) (maxL := 2) (by decide) rfl (Nat.le_of_ble_eq_true rfl) ?_
  intro p e s m below meth c A H locs Q hx hb hml hown hts hr hlocks hmn hA hP hK hD hS ls hl hQ
  have hl : lv_has ls 2 [(0, .ref (ad 1)), (1, .int v)] := hl
  have fl263 := hts (.fieldLink RX12 263 "SlopeRunnerModel" "waits" "I") (List.mem_of_getElem? (i := 1) rfl)
  have inX12 : ∀ w ∈ wsX120, w ∈ v_q_isOn := (fun w h => List.mem_cons_of_mem _ (List.mem_append_right _ h))
  have kk_0 : (0 : Int32).toInt = 0 := rfl
  have fl75 := hts (.fieldLink RX12 75 "SlopeRunnerModel" "wait" "[I") (List.mem_of_getElem? (i := 2) rfl)
  have kk_1 : (1 : Int32).toInt = 1 := rfl
  refine lv_aload_n hx hb dX12_isOn_0 rfl (lv_at hl 0 rfl) ?_
  refine va_get (D := D) (ci := 11) (v := .int (σ.1 31)) (C := RX12) (T := TX12) (N := 85) hx hb hts inX12 hown hK hP 0 mwd_o0 rfl 31 (by decide) fl263 (fun _ h9 => h9) rfl dX12_isOn_1 ?_
  refine lv_if_le (tgt := 26) hx hb dX12_isOn_4 (by decide) (fun c_1 => ?_) (fun c_1 => ?_)
  · have kc_1 : (σ.1 31).toInt ≤ 0 := by have h9 := c_1; simp only [ge_iff_le, gt_iff_lt, x_lt, x_le, x_eq, ne_eq, Int32.not_lt, Int32.not_le] at h9; simp only [Int32.reduceToInt] at h9; omega
    refine lv_iconst (v := 0) hx hb dX12_isOn_26 (by decide) ?_
    exact x_zretW (v := 0) (u := ()) hx hb hr hQ rfl (by omega) hP hD hK hS dX12_isOn_27 hlocks
  · have kc_1 : (σ.1 31).toInt > 0 := by have h9 := c_1; simp only [ge_iff_le, gt_iff_lt, x_lt, x_le, x_eq, ne_eq, Int32.not_lt, Int32.not_le] at h9; simp only [Int32.reduceToInt] at h9; omega
    refine lv_aload_n hx hb dX12_isOn_7 rfl (lv_at hl 0 rfl) ?_
    refine va_get (D := D) (ci := 11) (v := .ref (ad 30)) (C := RX12) (T := TX12) (N := 85) hx hb hts inX12 hown hK hP 0 mwd_o0 rfl 30 (by decide) fl75 (fun _ h9 => h9) rfl dX12_isOn_8 ?_
    refine lv_aload_n hx hb dX12_isOn_11 rfl (lv_at hl 0 rfl) ?_
    refine va_get (D := D) (ci := 11) (v := .int (σ.1 31)) (C := RX12) (T := TX12) (N := 85) hx hb hts inX12 hown hK hP 0 mwd_o0 rfl 31 (by decide) fl263 (fun _ h9 => h9) rfl dX12_isOn_12 ?_
    refine lv_iconst (v := 1) hx hb dX12_isOn_15 (by decide) ?_
    refine lv_isub hx hb dX12_isOn_16 ?_
    refine lv_topi (fun i_2 ei_2 => ?_)
    have vi_2 : i_2.toInt = (σ.1 31).toInt - 1 := by have h9 := x_sub ei_2 (by omega) (by omega); omega
    refine va_iald hx hb hK hP 21 2 mwd_a21 rfl (x_in (by omega) (by omega)) dX12_isOn_17 ?_
    refine lv_topi (fun i_3 ei_3 => ?_)
    have ei_3 : i_3 = (σ.2.2.1 30) (Int32.toNatClampNeg i_2) := ei_3
    have qi_3 : i_3.toInt = ((σ.2.2.1 30) ((σ.1 31).toInt.toNat - 1)).toInt := by rw [ei_3, x_cl (n := (σ.1 31).toInt.toNat - 1) (by omega)]
    refine lv_iload_n hx hb dX12_isOn_18 rfl (lv_at hl 1 rfl) ?_
    refine lv_icmp_ne (tgt := 26) hx hb dX12_isOn_19 (by decide) (fun c_4 => ?_) (fun c_4 => ?_)
    · have kc_4 : i_3.toInt ≠ v.toInt := by have h9 := c_4; simp only [ge_iff_le, gt_iff_lt, x_lt, x_le, x_eq, ne_eq, Int32.not_lt, Int32.not_le] at h9; omega
      refine lv_iconst (v := 0) hx hb dX12_isOn_26 (by decide) ?_
      exact x_zretW (v := 0) (u := ()) hx hb hr hQ rfl (by omega) hP hD hK hS dX12_isOn_27 hlocks
    · have kc_4 : i_3.toInt = v.toInt := by have h9 := c_4; simp only [ge_iff_le, gt_iff_lt, x_lt, x_le, x_eq, ne_eq, Int32.not_lt, Int32.not_le] at h9; omega
      refine lv_iconst (v := 1) hx hb dX12_isOn_22 (by decide) ?_
      refine lv_goto (tgt := 27) hx hb dX12_isOn_23 (by decide) ?_
      exact x_zretW (v := 1) (u := ()) hx hb hr hQ rfl (by omega) hP hD hK hS dX12_isOn_27 hlocks

def v_q_drops : List Cond := .code yX12_drops cX12_drops 1 none :: ([.fieldLink RX12 263 "SlopeRunnerModel" "waits" "I", .fieldLink RX12 75 "SlopeRunnerModel" "wait" "[I"] ++ ((wsV RX12 266 RX12 yX12_code v_q_code) ++ wsX120))
theorem g_q_drops_0 : GoodIn v_q_drops (wsV RX12 266 RX12 yX12_code v_q_code) := goodIn_sub (fun w h => List.mem_cons_of_mem _ (List.mem_append_right _ (List.mem_append_left _ h))) (by decide +kernel)
set_option maxHeartbeats 4000000 in
set_option maxRecDepth 100000 in
theorem q_drops (l : Launch) (D : va_G) (y : Nat → ClassId) (sz : Nat) (ad : Nat → Nat) (zw : Nat → Nat → Int32) (σ : OS) (hw0 : 1 ≤ (σ.1 31).toInt) (hw1 : (σ.1 31).toInt ≤ 800) (hc0 : 0 ≤ (σ.1 29).toInt) (hc1 : (σ.1 29).toInt < 1200) : Met l yX12_drops v_q_drops ({ frames := 1, cells := 0, slots := 0, locals := 21 } : Room) (va_Pc [.ref (ad 1)] (xPre D (xT y) (mwd y ad zw σ) sz)) (va_Qv (fun (u : Int32 × Int32 × (Nat → Int32)) => u.1.toInt = (σ.1 31).toInt - 1 ∧ u.2.1.toInt = (σ.1 29).toInt + 1 ∧ u.2.2 = upd (σ.2.2.1 27) (σ.1 29).toInt.toNat ((σ.2.2.1 30) ((σ.1 31).toInt.toNat - 1))) (fun (u : Int32 × Int32 × (Nat → Int32)) => xB D (xT y) (va_A (mwd y ad zw σ) sz) (mwd y ad zw (tI (sI (sI σ 31 u.1) 29 u.2.1) 27 u.2.2))) (va_A (mwd y ad zw σ) sz)) 0 0 (va_A (mwd y ad zw σ) sz) := by
  refine x_metv (cc := cX12_drops) (maxL := 1) (by decide) rfl (Nat.le_of_ble_eq_true rfl) ?_
  intro p e s m below meth c A H locs Q hx hb hml hown hts hr hlocks hmn hA hP hK hD hS ls hl hQ
  have hl : lv_has ls 1 [(0, .ref (ad 1))] := hl
  have fl263 := hts (.fieldLink RX12 263 "SlopeRunnerModel" "waits" "I") (List.mem_of_getElem? (i := 1) rfl)
  have inX12 : ∀ w ∈ wsX120, w ∈ v_q_drops := (fun w h => List.mem_cons_of_mem _ (List.mem_append_right _ (List.mem_append_right _ h)))
  have kk_1 : (1 : Int32).toInt = 1 := rfl
  have fl75 := hts (.fieldLink RX12 75 "SlopeRunnerModel" "wait" "[I") (List.mem_of_getElem? (i := 2) rfl)
  refine lv_aload_n hx hb dX12_drops_0 rfl (lv_at hl 0 rfl) ?_
  refine lv_dup hx hb dX12_drops_1 rfl ?_
  refine va_get (D := D) (ci := 11) (v := .int (σ.1 31)) (C := RX12) (T := TX12) (N := 85) hx hb hts inX12 hown hK hP 0 mwd_o0 rfl 31 (by decide) fl263 (fun _ h9 => h9) rfl dX12_drops_2 ?_
  refine lv_iconst (v := 1) hx hb dX12_drops_5 (by decide) ?_
  refine lv_isub hx hb dX12_drops_6 ?_
  refine lv_topi (fun i_1 ei_1 => ?_)
  have vi_1 : i_1.toInt = (σ.1 31).toInt - 1 := by have h9 := x_sub ei_1 (by omega) (by omega); omega
  refine va_put (D := D) (ci := 11) (v := .int i_1) (ty := .int) (C := RX12) (T := TX12) (N := 85) hx hb hts inX12 tyX12 tyX12_ok nmX12 hown hK hP hD hS 0 mwd_o0 rfl 31 (by decide) fl263 (fun _ h9 => h9) rfl (by decide +kernel) rfl rfl (Nat.le_of_ble_eq_true rfl) dX12_drops_7 (fun H locs hP hD hS => ?_)
  have hP : va_P D vwCl (mwd y ad zw (sI σ 31 i_1)) H := x_trP hP mwd_p0_31
  have hD : va_D A (mwd y ad zw (sI σ 31 i_1)) := x_trD hD mwd_p0_31
  refine lv_aload_n hx hb dX12_drops_10 rfl (lv_at hl 0 rfl) ?_
  refine lv_aload_n hx hb dX12_drops_11 rfl (lv_at hl 0 rfl) ?_
  refine va_get (D := D) (ci := 11) (v := .ref (ad 30)) (C := RX12) (T := TX12) (N := 85) hx hb hts inX12 hown hK hP 0 mwd_o0 rfl 30 (by decide) fl75 (fun _ h9 => h9) rfl dX12_drops_12 ?_
  refine lv_aload_n hx hb dX12_drops_15 rfl (lv_at hl 0 rfl) ?_
  refine va_get (D := D) (ci := 11) (v := .int i_1) (C := RX12) (T := TX12) (N := 85) hx hb hts inX12 hown hK hP 0 mwd_o0 rfl 31 (by decide) fl263 (fun _ h9 => h9) rfl dX12_drops_16 ?_
  refine va_iald hx hb hK hP 21 2 mwd_a21 rfl (x_in (by omega) (by omega)) dX12_drops_19 ?_
  refine lv_topi (fun i_2 ei_2 => ?_)
  have ei_2 : i_2 = (σ.2.2.1 30) (Int32.toNatClampNeg i_1) := ei_2
  have qi_2 : i_2 = (σ.2.2.1 30) ((σ.1 31).toInt.toNat - 1) := by rw [ei_2, x_cl (n := (σ.1 31).toInt.toNat - 1) (by omega)]
  refine x_callvW (va_runV (As := [.int i_2]) (rest := []) ⟨hx, hb, hml, hown, hts⟩ (q_code l D y H.size ad zw (sI σ 31 i_1) i_2 (show 0 ≤ ((σ.1 29)).toInt from by first | omega | decide) (show ((σ.1 29)).toInt < 1200 from by first | omega | decide)) (cwV 1 hts g_q_drops_0 rfl rfl rfl (by decide +kernel) ⟨Nat.le_of_ble_eq_true rfl, Nat.le_of_ble_eq_true rfl⟩) (x_preV (q := (RX12, TX12, 85)) hK hP hD (ci := 11) (q0 := 0) rfl mwd_o0) rfl rfl hl.1 rfl (lv_room (Nat.le_of_ble_eq_true rfl)) dX12_drops_20 ⟨Nat.le_of_ble_eq_true rfl, Nat.le_of_ble_eq_true rfl⟩) hP hD hS hA (fun u H locs hw hP hD hS => ?_)
  obtain ⟨n_3, f_4⟩ := u
  try dsimp only at hw
  have hP : va_P D vwCl (mwd y ad zw (tI (sI (sI σ 31 i_1) 29 n_3) 27 f_4)) H := hP
  have hD : va_D A (mwd y ad zw (tI (sI (sI σ 31 i_1) 29 n_3) 27 f_4)) := hD
  have hw : n_3.toInt = ((σ.1 29)).toInt + 1 ∧ f_4 = upd ((σ.2.2.1 27)) ((σ.1 29)).toInt.toNat i_2 := hw
  exact x_vretW (u := (i_1, n_3, f_4)) hx hb hr hQ (by (try dsimp only); exact ⟨by omega, by omega, by rw [hw.2, qi_2]⟩) hP hD hK hS dX12_drops_23 hlocks

def v_q_isMark : List Cond := .code yX12_isMark cX12_isMark 2 (some .boolean) :: []
set_option maxHeartbeats 4000000 in
set_option maxRecDepth 100000 in
theorem q_isMark (l : Launch) (D : va_G) (y : Nat → ClassId) (sz : Nat) (ad : Nat → Nat) (zw : Nat → Nat → Int32) (σ : OS) (v : Int32) : Met l yX12_isMark v_q_isMark ({ frames := 0, cells := 0, slots := 0, locals := 0 } : Room) (va_Pc [.ref (ad 1), .int v] (xPre D (xT y) (mwd y ad zw σ) sz)) (va_Qi (fun (r : Int32) (_ : Unit) => (r.toInt = 1 ∧ 20 ≤ v.toInt ∧ v.toInt < 30) ∨ (r.toInt = 0 ∧ ¬ (20 ≤ v.toInt ∧ v.toInt < 30))) (fun (u : Unit) => xB D (xT y) (va_A (mwd y ad zw σ) sz) (mwd y ad zw σ)) (va_A (mwd y ad zw σ) sz)) 0 0 (va_A (mwd y ad zw σ) sz) := by
  refine x_meti (cc := cX12_isMark) (maxL := 2) (by decide) rfl (Nat.le_of_ble_eq_true rfl) ?_
  intro p e s m below meth c A H locs Q hx hb hml hown hts hr hlocks hmn hA hP hK hD hS ls hl hQ
  have hl : lv_has ls 2 [(0, .ref (ad 1)), (1, .int v)] := hl
  have kk_20 : (20 : Int32).toInt = 20 := rfl
  have kk_0 : (0 : Int32).toInt = 0 := rfl
  have kk_30 : (30 : Int32).toInt = 30 := rfl
  have kk_1 : (1 : Int32).toInt = 1 := rfl
  refine lv_iload_n hx hb dX12_isMark_0 rfl (lv_at hl 1 rfl) ?_
  refine lv_bipush (v := 20) hx hb dX12_isMark_1 (by decide) ?_
  refine lv_icmp_lt (tgt := 16) hx hb dX12_isMark_3 (by decide) (fun c_1 => ?_) (fun c_1 => ?_)
  · have kc_1 : v.toInt < 20 := by have h9 := c_1; simp only [ge_iff_le, gt_iff_lt, x_lt, x_le, x_eq, ne_eq, Int32.not_lt, Int32.not_le] at h9; simp only [Int32.reduceToInt] at h9; omega
    refine lv_iconst (v := 0) hx hb dX12_isMark_16 (by decide) ?_
    exact x_zretW (v := 0) (u := ()) hx hb hr hQ rfl (by omega) hP hD hK hS dX12_isMark_17 hlocks
  · have kc_1 : v.toInt ≥ 20 := by have h9 := c_1; simp only [ge_iff_le, gt_iff_lt, x_lt, x_le, x_eq, ne_eq, Int32.not_lt, Int32.not_le] at h9; simp only [Int32.reduceToInt] at h9; omega
    refine lv_iload_n hx hb dX12_isMark_6 rfl (lv_at hl 1 rfl) ?_
    refine lv_bipush (v := 30) hx hb dX12_isMark_7 (by decide) ?_
    refine lv_icmp_ge (tgt := 16) hx hb dX12_isMark_9 (by decide) (fun c_2 => ?_) (fun c_2 => ?_)
    · have kc_2 : v.toInt ≥ 30 := by have h9 := c_2; simp only [ge_iff_le, gt_iff_lt, x_lt, x_le, x_eq, ne_eq, Int32.not_lt, Int32.not_le] at h9; simp only [Int32.reduceToInt] at h9; omega
      refine lv_iconst (v := 0) hx hb dX12_isMark_16 (by decide) ?_
      exact x_zretW (v := 0) (u := ()) hx hb hr hQ rfl (by omega) hP hD hK hS dX12_isMark_17 hlocks
    · have kc_2 : v.toInt < 30 := by have h9 := c_2; simp only [ge_iff_le, gt_iff_lt, x_lt, x_le, x_eq, ne_eq, Int32.not_lt, Int32.not_le] at h9; simp only [Int32.reduceToInt] at h9; omega
      refine lv_iconst (v := 1) hx hb dX12_isMark_12 (by decide) ?_
      refine lv_goto (tgt := 17) hx hb dX12_isMark_13 (by decide) ?_
      exact x_zretW (v := 1) (u := ()) hx hb hr hQ rfl (by omega) hP hD hK hS dX12_isMark_17 hlocks

