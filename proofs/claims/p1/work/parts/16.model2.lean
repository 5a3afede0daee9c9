theorem dX12_look_0 : decode cX12_look 0 = .ok (.aload_n 0, 1) := by decide +kernel
theorem dX12_look_1 : decode cX12_look 1 = .ok (.getfield 197, 3) := by decide +kernel
theorem dX12_look_4 : decode cX12_look 4 = .ok (.aload_n 0, 1) := by decide +kernel
theorem dX12_look_5 : decode cX12_look 5 = .ok (.getfield 200, 3) := by decide +kernel
theorem dX12_look_8 : decode cX12_look 8 = .ok (.if_icmp .ge 44, 3) := by decide +kernel
theorem dX12_look_11 : decode cX12_look 11 = .ok (.aload_n 0, 1) := by decide +kernel
theorem dX12_look_12 : decode cX12_look 12 = .ok (.getfield 7, 3) := by decide +kernel
theorem dX12_look_15 : decode cX12_look 15 = .ok (.aload_n 0, 1) := by decide +kernel
theorem dX12_look_16 : decode cX12_look 16 = .ok (.getfield 197, 3) := by decide +kernel
theorem dX12_look_19 : decode cX12_look 19 = .ok (.iaload, 1) := by decide +kernel
theorem dX12_look_20 : decode cX12_look 20 = .ok (.bipush 10, 2) := by decide +kernel
theorem dX12_look_22 : decode cX12_look 22 = .ok (.if_icmp .eq 17, 3) := by decide +kernel
theorem dX12_look_25 : decode cX12_look 25 = .ok (.aload_n 0, 1) := by decide +kernel
theorem dX12_look_26 : decode cX12_look 26 = .ok (.getfield 7, 3) := by decide +kernel
theorem dX12_look_29 : decode cX12_look 29 = .ok (.aload_n 0, 1) := by decide +kernel
theorem dX12_look_30 : decode cX12_look 30 = .ok (.getfield 197, 3) := by decide +kernel
theorem dX12_look_33 : decode cX12_look 33 = .ok (.iaload, 1) := by decide +kernel
theorem dX12_look_34 : decode cX12_look 34 = .ok (.bipush 32, 2) := by decide +kernel
theorem dX12_look_36 : decode cX12_look 36 = .ok (.if_icmp .ne 16, 3) := by decide +kernel
theorem dX12_look_39 : decode cX12_look 39 = .ok (.aload_n 0, 1) := by decide +kernel
theorem dX12_look_40 : decode cX12_look 40 = .ok (.dup, 1) := by decide +kernel
theorem dX12_look_41 : decode cX12_look 41 = .ok (.getfield 197, 3) := by decide +kernel
theorem dX12_look_44 : decode cX12_look 44 = .ok (.iconst 1, 1) := by decide +kernel
theorem dX12_look_45 : decode cX12_look 45 = .ok (.iadd, 1) := by decide +kernel
theorem dX12_look_46 : decode cX12_look 46 = .ok (.putfield 197, 3) := by decide +kernel
theorem dX12_look_49 : decode cX12_look 49 = .ok (.goto (-49), 3) := by decide +kernel
theorem dX12_look_52 : decode cX12_look 52 = .ok (.aload_n 0, 1) := by decide +kernel
theorem dX12_look_53 : decode cX12_look 53 = .ok (.getfield 197, 3) := by decide +kernel
theorem dX12_look_56 : decode cX12_look 56 = .ok (.aload_n 0, 1) := by decide +kernel
theorem dX12_look_57 : decode cX12_look 57 = .ok (.getfield 200, 3) := by decide +kernel
theorem dX12_look_60 : decode cX12_look 60 = .ok (.if_icmp .ge 15, 3) := by decide +kernel
theorem dX12_look_63 : decode cX12_look 63 = .ok (.aload_n 0, 1) := by decide +kernel
theorem dX12_look_64 : decode cX12_look 64 = .ok (.getfield 7, 3) := by decide +kernel
theorem dX12_look_67 : decode cX12_look 67 = .ok (.aload_n 0, 1) := by decide +kernel
theorem dX12_look_68 : decode cX12_look 68 = .ok (.getfield 197, 3) := by decide +kernel
theorem dX12_look_71 : decode cX12_look 71 = .ok (.iaload, 1) := by decide +kernel
theorem dX12_look_72 : decode cX12_look 72 = .ok (.goto 4, 3) := by decide +kernel
theorem dX12_look_75 : decode cX12_look 75 = .ok (.iconst (-1), 1) := by decide +kernel
theorem dX12_look_76 : decode cX12_look 76 = .ok (.ireturn, 1) := by decide +kernel
theorem dX12_reads_0 : decode cX12_reads 0 = .ok (.iconst 1, 1) := by decide +kernel
theorem dX12_reads_1 : decode cX12_reads 1 = .ok (.istore_n 1, 1) := by decide +kernel
theorem dX12_reads_2 : decode cX12_reads 2 = .ok (.iload_n 1, 1) := by decide +kernel
theorem dX12_reads_3 : decode cX12_reads 3 = .ok (.ifCond .eq 68, 3) := by decide +kernel
theorem dX12_reads_6 : decode cX12_reads 6 = .ok (.aload_n 0, 1) := by decide +kernel
theorem dX12_reads_7 : decode cX12_reads 7 = .ok (.getfield 191, 3) := by decide +kernel
theorem dX12_reads_10 : decode cX12_reads 10 = .ok (.ifCond .ne 61, 3) := by decide +kernel
theorem dX12_reads_13 : decode cX12_reads 13 = .ok (.aload_n 0, 1) := by decide +kernel
theorem dX12_reads_14 : decode cX12_reads 14 = .ok (.invokevirtual 203, 3) := by decide +kernel
theorem dX12_reads_17 : decode cX12_reads 17 = .ok (.istore_n 2, 1) := by decide +kernel
theorem dX12_reads_18 : decode cX12_reads 18 = .ok (.aload_n 0, 1) := by decide +kernel
theorem dX12_reads_19 : decode cX12_reads 19 = .ok (.getfield 332, 3) := by decide +kernel
theorem dX12_reads_22 : decode cX12_reads 22 = .ok (.ifCond .le 16, 3) := by decide +kernel
theorem dX12_reads_25 : decode cX12_reads 25 = .ok (.iload_n 2, 1) := by decide +kernel
theorem dX12_reads_26 : decode cX12_reads 26 = .ok (.bipush 125, 2) := by decide +kernel
theorem dX12_reads_28 : decode cX12_reads 28 = .ok (.if_icmp .ne 10, 3) := by decide +kernel
theorem dX12_reads_31 : decode cX12_reads 31 = .ok (.aload_n 0, 1) := by decide +kernel
theorem dX12_reads_32 : decode cX12_reads 32 = .ok (.invokevirtual 353, 3) := by decide +kernel
theorem dX12_reads_35 : decode cX12_reads 35 = .ok (.goto 33, 3) := by decide +kernel
theorem dX12_reads_38 : decode cX12_reads 38 = .ok (.iload_n 2, 1) := by decide +kernel
theorem dX12_reads_39 : decode cX12_reads 39 = .ok (.iconst (-1), 1) := by decide +kernel
theorem dX12_reads_40 : decode cX12_reads 40 = .ok (.if_icmp .eq 10, 3) := by decide +kernel
theorem dX12_reads_43 : decode cX12_reads 43 = .ok (.aload_n 0, 1) := by decide +kernel
theorem dX12_reads_44 : decode cX12_reads 44 = .ok (.invokevirtual 356, 3) := by decide +kernel
theorem dX12_reads_47 : decode cX12_reads 47 = .ok (.goto 21, 3) := by decide +kernel
theorem dX12_reads_50 : decode cX12_reads 50 = .ok (.iconst 0, 1) := by decide +kernel
theorem dX12_reads_51 : decode cX12_reads 51 = .ok (.istore_n 1, 1) := by decide +kernel
theorem dX12_reads_52 : decode cX12_reads 52 = .ok (.aload_n 0, 1) := by decide +kernel
theorem dX12_reads_53 : decode cX12_reads 53 = .ok (.getfield 332, 3) := by decide +kernel
theorem dX12_reads_56 : decode cX12_reads 56 = .ok (.ifCond .le 12, 3) := by decide +kernel
theorem dX12_reads_59 : decode cX12_reads 59 = .ok (.aload_n 0, 1) := by decide +kernel
theorem dX12_reads_60 : decode cX12_reads 60 = .ok (.iconst 1, 1) := by decide +kernel
theorem dX12_reads_61 : decode cX12_reads 61 = .ok (.aload_n 0, 1) := by decide +kernel
theorem dX12_reads_62 : decode cX12_reads 62 = .ok (.getfield 197, 3) := by decide +kernel
theorem dX12_reads_65 : decode cX12_reads 65 = .ok (.invokevirtual 221, 3) := by decide +kernel
theorem dX12_reads_68 : decode cX12_reads 68 = .ok (.goto (-66), 3) := by decide +kernel
theorem dX12_reads_71 : decode cX12_reads 71 = .ok (.return_, 1) := by decide +kernel
theorem dX12_program_0 : decode cX12_program 0 = .ok (.aload_n 0, 1) := by decide +kernel
theorem dX12_program_1 : decode cX12_program 1 = .ok (.aload_n 0, 1) := by decide +kernel
theorem dX12_program_2 : decode cX12_program 2 = .ok (.getfield 188, 3) := by decide +kernel
theorem dX12_program_5 : decode cX12_program 5 = .ok (.putfield 200, 3) := by decide +kernel
theorem dX12_program_8 : decode cX12_program 8 = .ok (.aload_n 0, 1) := by decide +kernel
theorem dX12_program_9 : decode cX12_program 9 = .ok (.iconst 0, 1) := by decide +kernel
theorem dX12_program_10 : decode cX12_program 10 = .ok (.putfield 188, 3) := by decide +kernel
theorem dX12_program_13 : decode cX12_program 13 = .ok (.aload_n 0, 1) := by decide +kernel
theorem dX12_program_14 : decode cX12_program 14 = .ok (.iconst 0, 1) := by decide +kernel
theorem dX12_program_15 : decode cX12_program 15 = .ok (.putfield 197, 3) := by decide +kernel
theorem dX12_program_18 : decode cX12_program 18 = .ok (.aload_n 0, 1) := by decide +kernel
theorem dX12_program_19 : decode cX12_program 19 = .ok (.iconst (-1), 1) := by decide +kernel
theorem dX12_program_20 : decode cX12_program 20 = .ok (.putfield 211, 3) := by decide +kernel
theorem dX12_program_23 : decode cX12_program 23 = .ok (.aload_n 0, 1) := by decide +kernel
theorem dX12_program_24 : decode cX12_program 24 = .ok (.iconst 0, 1) := by decide +kernel
theorem dX12_program_25 : decode cX12_program 25 = .ok (.putfield 191, 3) := by decide +kernel
theorem dX12_program_28 : decode cX12_program 28 = .ok (.aload_n 0, 1) := by decide +kernel
theorem dX12_program_29 : decode cX12_program 29 = .ok (.iconst (-1), 1) := by decide +kernel
theorem dX12_program_30 : decode cX12_program 30 = .ok (.putfield 194, 3) := by decide +kernel
theorem dX12_program_33 : decode cX12_program 33 = .ok (.iconst 0, 1) := by decide +kernel
theorem dX12_program_34 : decode cX12_program 34 = .ok (.istore_n 1, 1) := by decide +kernel
theorem dX12_program_35 : decode cX12_program 35 = .ok (.iload_n 1, 1) := by decide +kernel
theorem dX12_program_36 : decode cX12_program 36 = .ok (.iconst 5, 1) := by decide +kernel
theorem dX12_program_37 : decode cX12_program 37 = .ok (.if_icmp .ge 16, 3) := by decide +kernel
theorem dX12_program_40 : decode cX12_program 40 = .ok (.aload_n 0, 1) := by decide +kernel
theorem dX12_program_41 : decode cX12_program 41 = .ok (.getfield 60, 3) := by decide +kernel
theorem dX12_program_44 : decode cX12_program 44 = .ok (.iload_n 1, 1) := by decide +kernel
theorem dX12_program_45 : decode cX12_program 45 = .ok (.iconst 0, 1) := by decide +kernel
theorem dX12_program_46 : decode cX12_program 46 = .ok (.iastore, 1) := by decide +kernel
theorem dX12_program_47 : decode cX12_program 47 = .ok (.iinc 1 1, 3) := by decide +kernel
theorem dX12_program_50 : decode cX12_program 50 = .ok (.goto (-15), 3) := by decide +kernel
theorem dX12_program_53 : decode cX12_program 53 = .ok (.aload_n 0, 1) := by decide +kernel
theorem dX12_program_54 : decode cX12_program 54 = .ok (.iconst 0, 1) := by decide +kernel
theorem dX12_program_55 : decode cX12_program 55 = .ok (.putfield 246, 3) := by decide +kernel
theorem dX12_program_58 : decode cX12_program 58 = .ok (.aload_n 0, 1) := by decide +kernel
theorem dX12_program_59 : decode cX12_program 59 = .ok (.iconst 0, 1) := by decide +kernel
theorem dX12_program_60 : decode cX12_program 60 = .ok (.putfield 249, 3) := by decide +kernel
theorem dX12_program_63 : decode cX12_program 63 = .ok (.aload_n 0, 1) := by decide +kernel
theorem dX12_program_64 : decode cX12_program 64 = .ok (.iconst 0, 1) := by decide +kernel
theorem dX12_program_65 : decode cX12_program 65 = .ok (.putfield 332, 3) := by decide +kernel
theorem dX12_program_68 : decode cX12_program 68 = .ok (.aload_n 0, 1) := by decide +kernel
theorem dX12_program_69 : decode cX12_program 69 = .ok (.iconst 0, 1) := by decide +kernel
theorem dX12_program_70 : decode cX12_program 70 = .ok (.putfield 260, 3) := by decide +kernel
theorem dX12_program_73 : decode cX12_program 73 = .ok (.aload_n 0, 1) := by decide +kernel
theorem dX12_program_74 : decode cX12_program 74 = .ok (.invokevirtual 359, 3) := by decide +kernel
theorem dX12_program_77 : decode cX12_program 77 = .ok (.aload_n 0, 1) := by decide +kernel
theorem dX12_program_78 : decode cX12_program 78 = .ok (.aload_n 0, 1) := by decide +kernel
theorem dX12_program_79 : decode cX12_program 79 = .ok (.getfield 191, 3) := by decide +kernel
theorem dX12_program_82 : decode cX12_program 82 = .ok (.putfield 362, 3) := by decide +kernel
theorem dX12_program_85 : decode cX12_program 85 = .ok (.aload_n 0, 1) := by decide +kernel
theorem dX12_program_86 : decode cX12_program 86 = .ok (.aload_n 0, 1) := by decide +kernel
theorem dX12_program_87 : decode cX12_program 87 = .ok (.getfield 194, 3) := by decide +kernel
theorem dX12_program_90 : decode cX12_program 90 = .ok (.putfield 13, 3) := by decide +kernel
theorem dX12_program_93 : decode cX12_program 93 = .ok (.aload_n 0, 1) := by decide +kernel
theorem dX12_program_94 : decode cX12_program 94 = .ok (.getfield 191, 3) := by decide +kernel
theorem dX12_program_97 : decode cX12_program 97 = .ok (.ifCond .eq 5, 3) := by decide +kernel
theorem dX12_program_100 : decode cX12_program 100 = .ok (.iconst (-1), 1) := by decide +kernel
theorem dX12_program_101 : decode cX12_program 101 = .ok (.ireturn, 1) := by decide +kernel
theorem dX12_program_102 : decode cX12_program 102 = .ok (.iconst 0, 1) := by decide +kernel
theorem dX12_program_103 : decode cX12_program 103 = .ok (.istore_n 1, 1) := by decide +kernel
theorem dX12_program_104 : decode cX12_program 104 = .ok (.iload_n 1, 1) := by decide +kernel
theorem dX12_program_105 : decode cX12_program 105 = .ok (.iconst 5, 1) := by decide +kernel
theorem dX12_program_106 : decode cX12_program 106 = .ok (.if_icmp .ge 23, 3) := by decide +kernel
theorem dX12_program_109 : decode cX12_program 109 = .ok (.aload_n 0, 1) := by decide +kernel
theorem dX12_program_110 : decode cX12_program 110 = .ok (.getfield 60, 3) := by decide +kernel
theorem dX12_program_113 : decode cX12_program 113 = .ok (.iconst 5, 1) := by decide +kernel
theorem dX12_program_114 : decode cX12_program 114 = .ok (.iload_n 1, 1) := by decide +kernel
theorem dX12_program_115 : decode cX12_program 115 = .ok (.iadd, 1) := by decide +kernel
theorem dX12_program_116 : decode cX12_program 116 = .ok (.aload_n 0, 1) := by decide +kernel
theorem dX12_program_117 : decode cX12_program 117 = .ok (.getfield 60, 3) := by decide +kernel
theorem dX12_program_120 : decode cX12_program 120 = .ok (.iload_n 1, 1) := by decide +kernel
theorem dX12_program_121 : decode cX12_program 121 = .ok (.iaload, 1) := by decide +kernel
theorem dX12_program_122 : decode cX12_program 122 = .ok (.iastore, 1) := by decide +kernel
theorem dX12_program_123 : decode cX12_program 123 = .ok (.iinc 1 1, 3) := by decide +kernel
theorem dX12_program_126 : decode cX12_program 126 = .ok (.goto (-22), 3) := by decide +kernel
theorem dX12_program_129 : decode cX12_program 129 = .ok (.iconst 0, 1) := by decide +kernel
theorem dX12_program_130 : decode cX12_program 130 = .ok (.istore_n 1, 1) := by decide +kernel
theorem dX12_program_131 : decode cX12_program 131 = .ok (.iload_n 1, 1) := by decide +kernel
theorem dX12_program_132 : decode cX12_program 132 = .ok (.iconst 4, 1) := by decide +kernel
theorem dX12_program_133 : decode cX12_program 133 = .ok (.if_icmp .ge 23, 3) := by decide +kernel
theorem dX12_program_136 : decode cX12_program 136 = .ok (.aload_n 0, 1) := by decide +kernel
theorem dX12_program_137 : decode cX12_program 137 = .ok (.getfield 63, 3) := by decide +kernel
theorem dX12_program_140 : decode cX12_program 140 = .ok (.iconst 4, 1) := by decide +kernel
theorem dX12_program_141 : decode cX12_program 141 = .ok (.iload_n 1, 1) := by decide +kernel
theorem dX12_program_142 : decode cX12_program 142 = .ok (.iadd, 1) := by decide +kernel
theorem dX12_program_143 : decode cX12_program 143 = .ok (.aload_n 0, 1) := by decide +kernel
theorem dX12_program_144 : decode cX12_program 144 = .ok (.getfield 63, 3) := by decide +kernel
theorem dX12_program_147 : decode cX12_program 147 = .ok (.iload_n 1, 1) := by decide +kernel
theorem dX12_program_148 : decode cX12_program 148 = .ok (.iaload, 1) := by decide +kernel
theorem dX12_program_149 : decode cX12_program 149 = .ok (.iastore, 1) := by decide +kernel
theorem dX12_program_150 : decode cX12_program 150 = .ok (.iinc 1 1, 3) := by decide +kernel
theorem dX12_program_153 : decode cX12_program 153 = .ok (.goto (-22), 3) := by decide +kernel
theorem dX12_program_156 : decode cX12_program 156 = .ok (.iconst 0, 1) := by decide +kernel
theorem dX12_program_157 : decode cX12_program 157 = .ok (.istore_n 1, 1) := by decide +kernel
theorem dX12_program_158 : decode cX12_program 158 = .ok (.iload_n 1, 1) := by decide +kernel
theorem dX12_program_159 : decode cX12_program 159 = .ok (.aload_n 0, 1) := by decide +kernel
theorem dX12_program_160 : decode cX12_program 160 = .ok (.getfield 60, 3) := by decide +kernel
theorem dX12_program_163 : decode cX12_program 163 = .ok (.iconst 4, 1) := by decide +kernel
theorem dX12_program_164 : decode cX12_program 164 = .ok (.iaload, 1) := by decide +kernel
theorem dX12_program_165 : decode cX12_program 165 = .ok (.if_icmp .ge 25, 3) := by decide +kernel
theorem dX12_program_168 : decode cX12_program 168 = .ok (.aload_n 0, 1) := by decide +kernel
theorem dX12_program_169 : decode cX12_program 169 = .ok (.getfield 66, 3) := by decide +kernel
theorem dX12_program_172 : decode cX12_program 172 = .ok (.sipush 700, 3) := by decide +kernel
theorem dX12_program_175 : decode cX12_program 175 = .ok (.iload_n 1, 1) := by decide +kernel
theorem dX12_program_176 : decode cX12_program 176 = .ok (.iadd, 1) := by decide +kernel
theorem dX12_program_177 : decode cX12_program 177 = .ok (.aload_n 0, 1) := by decide +kernel
theorem dX12_program_178 : decode cX12_program 178 = .ok (.getfield 66, 3) := by decide +kernel
theorem dX12_program_181 : decode cX12_program 181 = .ok (.iload_n 1, 1) := by decide +kernel
theorem dX12_program_182 : decode cX12_program 182 = .ok (.iaload, 1) := by decide +kernel
theorem dX12_program_183 : decode cX12_program 183 = .ok (.iastore, 1) := by decide +kernel
theorem dX12_program_184 : decode cX12_program 184 = .ok (.iinc 1 1, 3) := by decide +kernel
theorem dX12_program_187 : decode cX12_program 187 = .ok (.goto (-29), 3) := by decide +kernel
theorem dX12_program_190 : decode cX12_program 190 = .ok (.iconst 0, 1) := by decide +kernel
theorem dX12_program_191 : decode cX12_program 191 = .ok (.istore_n 1, 1) := by decide +kernel
theorem dX12_program_192 : decode cX12_program 192 = .ok (.iload_n 1, 1) := by decide +kernel
theorem dX12_program_193 : decode cX12_program 193 = .ok (.aload_n 0, 1) := by decide +kernel
theorem dX12_program_194 : decode cX12_program 194 = .ok (.getfield 246, 3) := by decide +kernel
theorem dX12_program_197 : decode cX12_program 197 = .ok (.if_icmp .ge 25, 3) := by decide +kernel
theorem dX12_program_200 : decode cX12_program 200 = .ok (.aload_n 0, 1) := by decide +kernel
theorem dX12_program_201 : decode cX12_program 201 = .ok (.getfield 69, 3) := by decide +kernel
theorem dX12_program_204 : decode cX12_program 204 = .ok (.sipush 1200, 3) := by decide +kernel
theorem dX12_program_207 : decode cX12_program 207 = .ok (.iload_n 1, 1) := by decide +kernel
theorem dX12_program_208 : decode cX12_program 208 = .ok (.iadd, 1) := by decide +kernel
theorem dX12_program_209 : decode cX12_program 209 = .ok (.aload_n 0, 1) := by decide +kernel
theorem dX12_program_210 : decode cX12_program 210 = .ok (.getfield 69, 3) := by decide +kernel
theorem dX12_program_213 : decode cX12_program 213 = .ok (.iload_n 1, 1) := by decide +kernel
theorem dX12_program_214 : decode cX12_program 214 = .ok (.iaload, 1) := by decide +kernel
theorem dX12_program_215 : decode cX12_program 215 = .ok (.iastore, 1) := by decide +kernel
theorem dX12_program_216 : decode cX12_program 216 = .ok (.iinc 1 1, 3) := by decide +kernel
theorem dX12_program_219 : decode cX12_program 219 = .ok (.goto (-27), 3) := by decide +kernel
theorem dX12_program_222 : decode cX12_program 222 = .ok (.aload_n 0, 1) := by decide +kernel
theorem dX12_program_223 : decode cX12_program 223 = .ok (.getfield 72, 3) := by decide +kernel
theorem dX12_program_226 : decode cX12_program 226 = .ok (.iconst 1, 1) := by decide +kernel
theorem dX12_program_227 : decode cX12_program 227 = .ok (.aload_n 0, 1) := by decide +kernel
theorem dX12_program_228 : decode cX12_program 228 = .ok (.getfield 246, 3) := by decide +kernel
theorem dX12_program_231 : decode cX12_program 231 = .ok (.iastore, 1) := by decide +kernel
theorem dX12_program_232 : decode cX12_program 232 = .ok (.iconst 0, 1) := by decide +kernel
theorem dX12_program_233 : decode cX12_program 233 = .ok (.istore_n 1, 1) := by decide +kernel
theorem dX12_program_234 : decode cX12_program 234 = .ok (.iload_n 1, 1) := by decide +kernel
theorem dX12_program_235 : decode cX12_program 235 = .ok (.bipush 8, 2) := by decide +kernel
theorem dX12_program_237 : decode cX12_program 237 = .ok (.if_icmp .ge 23, 3) := by decide +kernel
theorem dX12_program_240 : decode cX12_program 240 = .ok (.aload_n 0, 1) := by decide +kernel
theorem dX12_program_241 : decode cX12_program 241 = .ok (.getfield 97, 3) := by decide +kernel
theorem dX12_program_244 : decode cX12_program 244 = .ok (.iload_n 1, 1) := by decide +kernel
theorem dX12_program_245 : decode cX12_program 245 = .ok (.lconst 0, 1) := by decide +kernel
theorem dX12_program_246 : decode cX12_program 246 = .ok (.lastore, 1) := by decide +kernel
theorem dX12_program_247 : decode cX12_program 247 = .ok (.aload_n 0, 1) := by decide +kernel
theorem dX12_program_248 : decode cX12_program 248 = .ok (.getfield 100, 3) := by decide +kernel
theorem dX12_program_251 : decode cX12_program 251 = .ok (.iload_n 1, 1) := by decide +kernel
theorem dX12_program_252 : decode cX12_program 252 = .ok (.lconst 1, 1) := by decide +kernel
theorem dX12_program_253 : decode cX12_program 253 = .ok (.lastore, 1) := by decide +kernel
theorem dX12_program_254 : decode cX12_program 254 = .ok (.iinc 1 1, 3) := by decide +kernel
theorem dX12_program_257 : decode cX12_program 257 = .ok (.goto (-23), 3) := by decide +kernel
theorem dX12_program_260 : decode cX12_program 260 = .ok (.aload_n 0, 1) := by decide +kernel
theorem dX12_program_261 : decode cX12_program 261 = .ok (.iconst 0, 1) := by decide +kernel
theorem dX12_program_262 : decode cX12_program 262 = .ok (.putfield 365, 3) := by decide +kernel
theorem dX12_program_265 : decode cX12_program 265 = .ok (.aload_n 0, 1) := by decide +kernel
theorem dX12_program_266 : decode cX12_program 266 = .ok (.iconst 0, 1) := by decide +kernel
theorem dX12_program_267 : decode cX12_program 267 = .ok (.putfield 368, 3) := by decide +kernel
theorem dX12_program_270 : decode cX12_program 270 = .ok (.aload_n 0, 1) := by decide +kernel
theorem dX12_program_271 : decode cX12_program 271 = .ok (.iconst 0, 1) := by decide +kernel
theorem dX12_program_272 : decode cX12_program 272 = .ok (.putfield 371, 3) := by decide +kernel
theorem dX12_program_275 : decode cX12_program 275 = .ok (.aload_n 0, 1) := by decide +kernel
theorem dX12_program_276 : decode cX12_program 276 = .ok (.iconst 0, 1) := by decide +kernel
theorem dX12_program_277 : decode cX12_program 277 = .ok (.putfield 375, 3) := by decide +kernel
theorem dX12_program_280 : decode cX12_program 280 = .ok (.aload_n 0, 1) := by decide +kernel
theorem dX12_program_281 : decode cX12_program 281 = .ok (.getfield 60, 3) := by decide +kernel
theorem dX12_program_284 : decode cX12_program 284 = .ok (.bipush 8, 2) := by decide +kernel
theorem dX12_program_286 : decode cX12_program 286 = .ok (.iaload, 1) := by decide +kernel
theorem dX12_program_287 : decode cX12_program 287 = .ok (.ireturn, 1) := by decide +kernel
theorem dX12_lays_0 : decode cX12_lays 0 = .ok (.sipush 1760, 3) := by decide +kernel
theorem dX12_lays_3 : decode cX12_lays 3 = .ok (.iload_n 1, 1) := by decide +kernel
theorem dX12_lays_4 : decode cX12_lays 4 = .ok (.imul, 1) := by decide +kernel
theorem dX12_lays_5 : decode cX12_lays 5 = .ok (.aload_n 0, 1) := by decide +kernel
theorem dX12_lays_6 : decode cX12_lays 6 = .ok (.getfield 139, 3) := by decide +kernel
theorem dX12_lays_9 : decode cX12_lays 9 = .ok (.iload_n 1, 1) := by decide +kernel
theorem dX12_lays_10 : decode cX12_lays 10 = .ok (.iaload, 1) := by decide +kernel
theorem dX12_lays_11 : decode cX12_lays 11 = .ok (.iadd, 1) := by decide +kernel
theorem dX12_lays_12 : decode cX12_lays 12 = .ok (.istore 9, 2) := by decide +kernel
theorem dX12_lays_14 : decode cX12_lays 14 = .ok (.aload_n 0, 1) := by decide +kernel
theorem dX12_lays_15 : decode cX12_lays 15 = .ok (.getfield 124, 3) := by decide +kernel
theorem dX12_lays_18 : decode cX12_lays 18 = .ok (.iload 9, 2) := by decide +kernel
theorem dX12_lays_20 : decode cX12_lays 20 = .ok (.lload_n 2, 1) := by decide +kernel
theorem dX12_lays_21 : decode cX12_lays 21 = .ok (.lastore, 1) := by decide +kernel
theorem dX12_lays_22 : decode cX12_lays 22 = .ok (.aload_n 0, 1) := by decide +kernel
theorem dX12_lays_23 : decode cX12_lays 23 = .ok (.getfield 127, 3) := by decide +kernel
theorem dX12_lays_26 : decode cX12_lays 26 = .ok (.iload 9, 2) := by decide +kernel
theorem dX12_lays_28 : decode cX12_lays 28 = .ok (.lload 4, 2) := by decide +kernel
theorem dX12_lays_30 : decode cX12_lays 30 = .ok (.lastore, 1) := by decide +kernel
theorem dX12_lays_31 : decode cX12_lays 31 = .ok (.aload_n 0, 1) := by decide +kernel
theorem dX12_lays_32 : decode cX12_lays 32 = .ok (.getfield 130, 3) := by decide +kernel
theorem dX12_lays_35 : decode cX12_lays 35 = .ok (.iload 9, 2) := by decide +kernel
theorem dX12_lays_37 : decode cX12_lays 37 = .ok (.iload 6, 2) := by decide +kernel
theorem dX12_lays_39 : decode cX12_lays 39 = .ok (.iastore, 1) := by decide +kernel
theorem dX12_lays_40 : decode cX12_lays 40 = .ok (.aload_n 0, 1) := by decide +kernel
theorem dX12_lays_41 : decode cX12_lays 41 = .ok (.getfield 133, 3) := by decide +kernel
theorem dX12_lays_44 : decode cX12_lays 44 = .ok (.iload 9, 2) := by decide +kernel
theorem dX12_lays_46 : decode cX12_lays 46 = .ok (.iload 7, 2) := by decide +kernel
theorem dX12_lays_48 : decode cX12_lays 48 = .ok (.iastore, 1) := by decide +kernel
theorem dX12_lays_49 : decode cX12_lays 49 = .ok (.aload_n 0, 1) := by decide +kernel
theorem dX12_lays_50 : decode cX12_lays 50 = .ok (.getfield 136, 3) := by decide +kernel
theorem dX12_lays_53 : decode cX12_lays 53 = .ok (.iload 9, 2) := by decide +kernel
theorem dX12_lays_55 : decode cX12_lays 55 = .ok (.iload 8, 2) := by decide +kernel
theorem dX12_lays_57 : decode cX12_lays 57 = .ok (.iastore, 1) := by decide +kernel
theorem dX12_lays_58 : decode cX12_lays 58 = .ok (.aload_n 0, 1) := by decide +kernel
theorem dX12_lays_59 : decode cX12_lays 59 = .ok (.getfield 139, 3) := by decide +kernel
theorem dX12_lays_62 : decode cX12_lays 62 = .ok (.iload_n 1, 1) := by decide +kernel
theorem dX12_lays_63 : decode cX12_lays 63 = .ok (.dup2, 1) := by decide +kernel
theorem dX12_lays_64 : decode cX12_lays 64 = .ok (.iaload, 1) := by decide +kernel
theorem dX12_lays_65 : decode cX12_lays 65 = .ok (.iconst 1, 1) := by decide +kernel
theorem dX12_lays_66 : decode cX12_lays 66 = .ok (.iadd, 1) := by decide +kernel
theorem dX12_lays_67 : decode cX12_lays 67 = .ok (.iastore, 1) := by decide +kernel
theorem dX12_lays_68 : decode cX12_lays 68 = .ok (.return_, 1) := by decide +kernel
theorem dX12_goes_0 : decode cX12_goes 0 = .ok (.aload_n 0, 1) := by decide +kernel
theorem dX12_goes_1 : decode cX12_goes 1 = .ok (.getfield 60, 3) := by decide +kernel
theorem dX12_goes_4 : decode cX12_goes 4 = .ok (.iconst 5, 1) := by decide +kernel
theorem dX12_goes_5 : decode cX12_goes 5 = .ok (.iaload, 1) := by decide +kernel
theorem dX12_goes_6 : decode cX12_goes 6 = .ok (.istore_n 2, 1) := by decide +kernel
theorem dX12_goes_7 : decode cX12_goes 7 = .ok (.aload_n 0, 1) := by decide +kernel
theorem dX12_goes_8 : decode cX12_goes 8 = .ok (.getfield 139, 3) := by decide +kernel
theorem dX12_goes_11 : decode cX12_goes 11 = .ok (.iload_n 1, 1) := by decide +kernel
theorem dX12_goes_12 : decode cX12_goes 12 = .ok (.iconst 0, 1) := by decide +kernel
theorem dX12_goes_13 : decode cX12_goes 13 = .ok (.iastore, 1) := by decide +kernel
theorem dX12_goes_14 : decode cX12_goes 14 = .ok (.aload_n 0, 1) := by decide +kernel
theorem dX12_goes_15 : decode cX12_goes 15 = .ok (.getfield 142, 3) := by decide +kernel
theorem dX12_goes_18 : decode cX12_goes 18 = .ok (.iload_n 1, 1) := by decide +kernel
theorem dX12_goes_19 : decode cX12_goes 19 = .ok (.iconst 0, 1) := by decide +kernel
theorem dX12_goes_20 : decode cX12_goes 20 = .ok (.iastore, 1) := by decide +kernel
theorem dX12_goes_21 : decode cX12_goes 21 = .ok (.aload_n 0, 1) := by decide +kernel
theorem dX12_goes_22 : decode cX12_goes 22 = .ok (.getfield 145, 3) := by decide +kernel
theorem dX12_goes_25 : decode cX12_goes 25 = .ok (.iload_n 1, 1) := by decide +kernel
theorem dX12_goes_26 : decode cX12_goes 26 = .ok (.iconst 0, 1) := by decide +kernel
theorem dX12_goes_27 : decode cX12_goes 27 = .ok (.iastore, 1) := by decide +kernel
theorem dX12_goes_28 : decode cX12_goes 28 = .ok (.aload_n 0, 1) := by decide +kernel
theorem dX12_goes_29 : decode cX12_goes 29 = .ok (.getfield 151, 3) := by decide +kernel
theorem dX12_goes_32 : decode cX12_goes 32 = .ok (.iload_n 1, 1) := by decide +kernel
theorem dX12_goes_33 : decode cX12_goes 33 = .ok (.iconst 0, 1) := by decide +kernel
theorem dX12_goes_34 : decode cX12_goes 34 = .ok (.iastore, 1) := by decide +kernel
theorem dX12_goes_35 : decode cX12_goes 35 = .ok (.aload_n 0, 1) := by decide +kernel
theorem dX12_goes_36 : decode cX12_goes 36 = .ok (.getfield 154, 3) := by decide +kernel
theorem dX12_goes_39 : decode cX12_goes 39 = .ok (.iload_n 1, 1) := by decide +kernel
theorem dX12_goes_40 : decode cX12_goes 40 = .ok (.iconst 0, 1) := by decide +kernel
theorem dX12_goes_41 : decode cX12_goes 41 = .ok (.iastore, 1) := by decide +kernel
theorem dX12_goes_42 : decode cX12_goes 42 = .ok (.aload_n 0, 1) := by decide +kernel
theorem dX12_goes_43 : decode cX12_goes 43 = .ok (.iconst 0, 1) := by decide +kernel
theorem dX12_goes_44 : decode cX12_goes 44 = .ok (.putfield 421, 3) := by decide +kernel
theorem dX12_goes_47 : decode cX12_goes 47 = .ok (.iload_n 1, 1) := by decide +kernel
theorem dX12_goes_48 : decode cX12_goes 48 = .ok (.ifCond .ne 8, 3) := by decide +kernel
theorem dX12_goes_51 : decode cX12_goes 51 = .ok (.aload_n 0, 1) := by decide +kernel
theorem dX12_goes_52 : decode cX12_goes 52 = .ok (.iconst 0, 1) := by decide +kernel
theorem dX12_goes_53 : decode cX12_goes 53 = .ok (.putfield 412, 3) := by decide +kernel
theorem dX12_goes_56 : decode cX12_goes 56 = .ok (.iconst 0, 1) := by decide +kernel
theorem dX12_goes_57 : decode cX12_goes 57 = .ok (.istore_n 3, 1) := by decide +kernel
theorem dX12_goes_58 : decode cX12_goes 58 = .ok (.iload_n 3, 1) := by decide +kernel
theorem dX12_goes_59 : decode cX12_goes 59 = .ok (.iload_n 2, 1) := by decide +kernel
theorem dX12_goes_60 : decode cX12_goes 60 = .ok (.if_icmp .ge 39, 3) := by decide +kernel
theorem dX12_goes_63 : decode cX12_goes 63 = .ok (.aload_n 0, 1) := by decide +kernel
theorem dX12_goes_64 : decode cX12_goes 64 = .ok (.iload_n 1, 1) := by decide +kernel
theorem dX12_goes_65 : decode cX12_goes 65 = .ok (.aload_n 0, 1) := by decide +kernel
theorem dX12_goes_66 : decode cX12_goes 66 = .ok (.getfield 118, 3) := by decide +kernel
theorem dX12_goes_69 : decode cX12_goes 69 = .ok (.bipush 8, 2) := by decide +kernel
theorem dX12_goes_71 : decode cX12_goes 71 = .ok (.iload_n 1, 1) := by decide +kernel
theorem dX12_goes_72 : decode cX12_goes 72 = .ok (.imul, 1) := by decide +kernel
theorem dX12_goes_73 : decode cX12_goes 73 = .ok (.iload_n 3, 1) := by decide +kernel
theorem dX12_goes_74 : decode cX12_goes 74 = .ok (.iadd, 1) := by decide +kernel
theorem dX12_goes_75 : decode cX12_goes 75 = .ok (.laload, 1) := by decide +kernel
theorem dX12_goes_76 : decode cX12_goes 76 = .ok (.aload_n 0, 1) := by decide +kernel
theorem dX12_goes_77 : decode cX12_goes 77 = .ok (.getfield 121, 3) := by decide +kernel
theorem dX12_goes_80 : decode cX12_goes 80 = .ok (.bipush 8, 2) := by decide +kernel
theorem dX12_goes_82 : decode cX12_goes 82 = .ok (.iload_n 1, 1) := by decide +kernel
theorem dX12_goes_83 : decode cX12_goes 83 = .ok (.imul, 1) := by decide +kernel
theorem dX12_goes_84 : decode cX12_goes 84 = .ok (.iload_n 3, 1) := by decide +kernel
theorem dX12_goes_85 : decode cX12_goes 85 = .ok (.iadd, 1) := by decide +kernel
theorem dX12_goes_86 : decode cX12_goes 86 = .ok (.laload, 1) := by decide +kernel
theorem dX12_goes_87 : decode cX12_goes 87 = .ok (.iconst 0, 1) := by decide +kernel
theorem dX12_goes_88 : decode cX12_goes 88 = .ok (.iconst (-1), 1) := by decide +kernel
theorem dX12_goes_89 : decode cX12_goes 89 = .ok (.iconst (-1), 1) := by decide +kernel
theorem dX12_goes_90 : decode cX12_goes 90 = .ok (.invokevirtual 433, 3) := by decide +kernel
theorem dX12_goes_93 : decode cX12_goes 93 = .ok (.iinc 3 1, 3) := by decide +kernel
theorem dX12_goes_96 : decode cX12_goes 96 = .ok (.goto (-38), 3) := by decide +kernel
theorem dX12_goes_99 : decode cX12_goes 99 = .ok (.aload_n 0, 1) := by decide +kernel
theorem dX12_goes_100 : decode cX12_goes 100 = .ok (.iload_n 1, 1) := by decide +kernel
theorem dX12_goes_101 : decode cX12_goes 101 = .ok (.lconst 0, 1) := by decide +kernel
theorem dX12_goes_102 : decode cX12_goes 102 = .ok (.lconst 1, 1) := by decide +kernel
theorem dX12_goes_103 : decode cX12_goes 103 = .ok (.iconst 0, 1) := by decide +kernel
theorem dX12_goes_104 : decode cX12_goes 104 = .ok (.iconst (-1), 1) := by decide +kernel
theorem dX12_goes_105 : decode cX12_goes 105 = .ok (.iconst (-1), 1) := by decide +kernel
theorem dX12_goes_106 : decode cX12_goes 106 = .ok (.invokevirtual 433, 3) := by decide +kernel
theorem dX12_goes_109 : decode cX12_goes 109 = .ok (.iconst 0, 1) := by decide +kernel
theorem dX12_goes_110 : decode cX12_goes 110 = .ok (.istore_n 3, 1) := by decide +kernel
theorem dX12_goes_111 : decode cX12_goes 111 = .ok (.iload_n 3, 1) := by decide +kernel
theorem dX12_goes_112 : decode cX12_goes 112 = .ok (.aload_n 0, 1) := by decide +kernel
theorem dX12_goes_113 : decode cX12_goes 113 = .ok (.getfield 60, 3) := by decide +kernel
theorem dX12_goes_116 : decode cX12_goes 116 = .ok (.bipush 9, 2) := by decide +kernel
theorem dX12_goes_118 : decode cX12_goes 118 = .ok (.iaload, 1) := by decide +kernel
theorem dX12_goes_119 : decode cX12_goes 119 = .ok (.if_icmp .ge 29, 3) := by decide +kernel
theorem dX12_goes_122 : decode cX12_goes 122 = .ok (.aload_n 0, 1) := by decide +kernel
theorem dX12_goes_123 : decode cX12_goes 123 = .ok (.iload_n 1, 1) := by decide +kernel
theorem dX12_goes_124 : decode cX12_goes 124 = .ok (.aload_n 0, 1) := by decide +kernel
theorem dX12_goes_125 : decode cX12_goes 125 = .ok (.getfield 66, 3) := by decide +kernel
theorem dX12_goes_128 : decode cX12_goes 128 = .ok (.sipush 700, 3) := by decide +kernel
theorem dX12_goes_131 : decode cX12_goes 131 = .ok (.iload_n 3, 1) := by decide +kernel
theorem dX12_goes_132 : decode cX12_goes 132 = .ok (.iadd, 1) := by decide +kernel
theorem dX12_goes_133 : decode cX12_goes 133 = .ok (.iaload, 1) := by decide +kernel
theorem dX12_goes_134 : decode cX12_goes 134 = .ok (.i2l, 1) := by decide +kernel
theorem dX12_goes_135 : decode cX12_goes 135 = .ok (.lconst 1, 1) := by decide +kernel
theorem dX12_goes_136 : decode cX12_goes 136 = .ok (.iconst 0, 1) := by decide +kernel
theorem dX12_goes_137 : decode cX12_goes 137 = .ok (.iconst (-1), 1) := by decide +kernel
theorem dX12_goes_138 : decode cX12_goes 138 = .ok (.iconst (-1), 1) := by decide +kernel
theorem dX12_goes_139 : decode cX12_goes 139 = .ok (.invokevirtual 433, 3) := by decide +kernel
theorem dX12_goes_142 : decode cX12_goes 142 = .ok (.iinc 3 1, 3) := by decide +kernel
theorem dX12_goes_145 : decode cX12_goes 145 = .ok (.goto (-34), 3) := by decide +kernel
theorem dX12_goes_148 : decode cX12_goes 148 = .ok (.iconst 0, 1) := by decide +kernel
theorem dX12_goes_149 : decode cX12_goes 149 = .ok (.istore_n 3, 1) := by decide +kernel
theorem dX12_goes_150 : decode cX12_goes 150 = .ok (.iload_n 3, 1) := by decide +kernel
theorem dX12_goes_151 : decode cX12_goes 151 = .ok (.bipush 84, 2) := by decide +kernel
theorem dX12_goes_153 : decode cX12_goes 153 = .ok (.if_icmp .ge 25, 3) := by decide +kernel
theorem dX12_goes_156 : decode cX12_goes 156 = .ok (.aload_n 0, 1) := by decide +kernel
theorem dX12_goes_157 : decode cX12_goes 157 = .ok (.getfield 157, 3) := by decide +kernel
theorem dX12_goes_160 : decode cX12_goes 160 = .ok (.iload_n 3, 1) := by decide +kernel
theorem dX12_goes_161 : decode cX12_goes 161 = .ok (.iload_n 3, 1) := by decide +kernel
theorem dX12_goes_162 : decode cX12_goes 162 = .ok (.iload_n 2, 1) := by decide +kernel
theorem dX12_goes_163 : decode cX12_goes 163 = .ok (.if_icmp .ge 7, 3) := by decide +kernel
theorem dX12_goes_166 : decode cX12_goes 166 = .ok (.iload_n 3, 1) := by decide +kernel
theorem dX12_goes_167 : decode cX12_goes 167 = .ok (.goto 4, 3) := by decide +kernel
theorem dX12_goes_170 : decode cX12_goes 170 = .ok (.iload_n 2, 1) := by decide +kernel
theorem dX12_goes_171 : decode cX12_goes 171 = .ok (.iastore, 1) := by decide +kernel
theorem dX12_goes_172 : decode cX12_goes 172 = .ok (.iinc 3 1, 3) := by decide +kernel
theorem dX12_goes_175 : decode cX12_goes 175 = .ok (.goto (-25), 3) := by decide +kernel
theorem dX12_goes_178 : decode cX12_goes 178 = .ok (.iconst 0, 1) := by decide +kernel
theorem dX12_goes_179 : decode cX12_goes 179 = .ok (.istore_n 3, 1) := by decide +kernel
theorem dX12_goes_180 : decode cX12_goes 180 = .ok (.iload_n 3, 1) := by decide +kernel
theorem dX12_goes_181 : decode cX12_goes 181 = .ok (.aload_n 0, 1) := by decide +kernel
theorem dX12_goes_182 : decode cX12_goes 182 = .ok (.getfield 72, 3) := by decide +kernel
theorem dX12_goes_185 : decode cX12_goes 185 = .ok (.iconst 1, 1) := by decide +kernel
theorem dX12_goes_186 : decode cX12_goes 186 = .ok (.iaload, 1) := by decide +kernel
theorem dX12_goes_187 : decode cX12_goes 187 = .ok (.if_icmp .ge 22, 3) := by decide +kernel
theorem dX12_goes_190 : decode cX12_goes 190 = .ok (.aload_n 0, 1) := by decide +kernel
theorem dX12_goes_191 : decode cX12_goes 191 = .ok (.getfield 154, 3) := by decide +kernel
theorem dX12_goes_194 : decode cX12_goes 194 = .ok (.iload_n 1, 1) := by decide +kernel
theorem dX12_goes_195 : decode cX12_goes 195 = .ok (.iaload, 1) := by decide +kernel
theorem dX12_goes_196 : decode cX12_goes 196 = .ok (.ifCond .ne 13, 3) := by decide +kernel
theorem dX12_goes_199 : decode cX12_goes 199 = .ok (.aload_n 0, 1) := by decide +kernel
theorem dX12_goes_200 : decode cX12_goes 200 = .ok (.iload_n 1, 1) := by decide +kernel
theorem dX12_goes_201 : decode cX12_goes 201 = .ok (.iload_n 3, 1) := by decide +kernel
theorem dX12_goes_202 : decode cX12_goes 202 = .ok (.invokevirtual 441, 3) := by decide +kernel
theorem dX12_goes_205 : decode cX12_goes 205 = .ok (.istore_n 3, 1) := by decide +kernel
theorem dX12_goes_206 : decode cX12_goes 206 = .ok (.goto (-26), 3) := by decide +kernel
theorem dX12_goes_209 : decode cX12_goes 209 = .ok (.return_, 1) := by decide +kernel
theorem dX12_run_0 : decode cX12_run 0 = .ok (.iconst 0, 1) := by decide +kernel
theorem dX12_run_1 : decode cX12_run 1 = .ok (.istore_n 1, 1) := by decide +kernel
theorem dX12_run_2 : decode cX12_run 2 = .ok (.iload_n 1, 1) := by decide +kernel
theorem dX12_run_3 : decode cX12_run 3 = .ok (.bipush 8, 2) := by decide +kernel
theorem dX12_run_5 : decode cX12_run 5 = .ok (.if_icmp .ge 33, 3) := by decide +kernel
theorem dX12_run_8 : decode cX12_run 8 = .ok (.aload_n 0, 1) := by decide +kernel
theorem dX12_run_9 : decode cX12_run 9 = .ok (.getfield 118, 3) := by decide +kernel
theorem dX12_run_12 : decode cX12_run 12 = .ok (.iload_n 1, 1) := by decide +kernel
theorem dX12_run_13 : decode cX12_run 13 = .ok (.aload_n 0, 1) := by decide +kernel
theorem dX12_run_14 : decode cX12_run 14 = .ok (.getfield 97, 3) := by decide +kernel
theorem dX12_run_17 : decode cX12_run 17 = .ok (.iload_n 1, 1) := by decide +kernel
theorem dX12_run_18 : decode cX12_run 18 = .ok (.laload, 1) := by decide +kernel
theorem dX12_run_19 : decode cX12_run 19 = .ok (.lastore, 1) := by decide +kernel
theorem dX12_run_20 : decode cX12_run 20 = .ok (.aload_n 0, 1) := by decide +kernel
theorem dX12_run_21 : decode cX12_run 21 = .ok (.getfield 121, 3) := by decide +kernel
theorem dX12_run_24 : decode cX12_run 24 = .ok (.iload_n 1, 1) := by decide +kernel
theorem dX12_run_25 : decode cX12_run 25 = .ok (.aload_n 0, 1) := by decide +kernel
theorem dX12_run_26 : decode cX12_run 26 = .ok (.getfield 100, 3) := by decide +kernel
theorem dX12_run_29 : decode cX12_run 29 = .ok (.iload_n 1, 1) := by decide +kernel
theorem dX12_run_30 : decode cX12_run 30 = .ok (.laload, 1) := by decide +kernel
theorem dX12_run_31 : decode cX12_run 31 = .ok (.lastore, 1) := by decide +kernel
theorem dX12_run_32 : decode cX12_run 32 = .ok (.iinc 1 1, 3) := by decide +kernel
theorem dX12_run_35 : decode cX12_run 35 = .ok (.goto (-33), 3) := by decide +kernel
theorem dX12_run_38 : decode cX12_run 38 = .ok (.aload_n 0, 1) := by decide +kernel
theorem dX12_run_39 : decode cX12_run 39 = .ok (.iconst 0, 1) := by decide +kernel
theorem dX12_run_40 : decode cX12_run 40 = .ok (.invokevirtual 451, 3) := by decide +kernel
theorem dX12_run_43 : decode cX12_run 43 = .ok (.aload_n 0, 1) := by decide +kernel
theorem dX12_run_44 : decode cX12_run 44 = .ok (.iconst 1, 1) := by decide +kernel
theorem dX12_run_45 : decode cX12_run 45 = .ok (.putfield 371, 3) := by decide +kernel
theorem dX12_run_48 : decode cX12_run 48 = .ok (.aload_n 0, 1) := by decide +kernel
theorem dX12_run_49 : decode cX12_run 49 = .ok (.getfield 154, 3) := by decide +kernel
theorem dX12_run_52 : decode cX12_run 52 = .ok (.iconst 0, 1) := by decide +kernel
theorem dX12_run_53 : decode cX12_run 53 = .ok (.iaload, 1) := by decide +kernel
theorem dX12_run_54 : decode cX12_run 54 = .ok (.ireturn, 1) := by decide +kernel
def v_m_look0 : List Cond := .code yX12_look cX12_look 1 (some .int) :: ([.fieldLink RX12 197 "SlopeRunnerModel" "at" "I", .fieldLink RX12 200 "SlopeRunnerModel" "end" "I"] ++ wsX120)
set_option maxHeartbeats 4000000 in
set_option maxRecDepth 100000 in
theorem m_look0 (l : Launch) (D : va_G) (y : Nat → ClassId) (sz : Nat) (h0 : Nat) (ma : Nat → Nat) (mi : Nat → Int32) (mj : Nat → Int64) : Met l yX12_look v_m_look0 ({ frames := 0, cells := 0, slots := 0, locals := 0 } : Room) (va_Pc [.ref h0] (xPre D (xT y) [(h0, .inr (11, mF ma (upd (upd mi 2 0) 3 0) mj))] sz)) (va_Qi (fun (r : Int32) (_ : Unit) => r = -1) (fun (u : Unit) => xB D (xT y) (va_A [(h0, .inr (11, mF ma (upd (upd mi 2 0) 3 0) mj))] sz) [(h0, .inr (11, mF ma (upd (upd mi 2 0) 3 0) mj))]) (va_A [(h0, .inr (11, mF ma (upd (upd mi 2 0) 3 0) mj))] sz)) 0 0 (va_A [(h0, .inr (11, mF ma (upd (upd mi 2 0) 3 0) mj))] sz) := by
  refine x_meti (cc := cX12_look) (maxL := 1) (by decide) rfl (Nat.le_of_ble_eq_true rfl) ?_
  intro p e s m below meth c A H locs Q hx hb hml hown hts hr hlocks hmn hA hP hK hD hS ls hl hQ
  have hl : lv_has ls 1 [(0, .ref h0)] := hl
  have fl197 := hts (.fieldLink RX12 197 "SlopeRunnerModel" "at" "I") (by decide +kernel)
  have inX12 : ∀ w ∈ wsX120, w ∈ v_m_look0 := (fun w h => List.mem_cons_of_mem _ (List.mem_append_right _ h))
  have fl200 := hts (.fieldLink RX12 200 "SlopeRunnerModel" "end" "I") (by decide +kernel)
  refine lv_aload_n hx hb dX12_look_0 rfl (lv_at hl 0 rfl) ?_
  refine va_get (D := D) (ci := 11) (v := .int 0) (C := RX12) (T := TX12) (N := 85) hx hb hts inX12 hown hK hP 0 rfl rfl 2 (by decide) fl197 (fun _ h9 => h9) rfl dX12_look_1 ?_
  refine lv_aload_n hx hb dX12_look_4 rfl (lv_at hl 0 rfl) ?_
  refine va_get (D := D) (ci := 11) (v := .int 0) (C := RX12) (T := TX12) (N := 85) hx hb hts inX12 hown hK hP 0 rfl rfl 3 (by decide) fl200 (fun _ h9 => h9) rfl dX12_look_5 ?_
  refine lv_icmp_ge (tgt := 52) hx hb dX12_look_8 (by decide) (fun c_1 => ?_) (fun c_1 => ?_)
  · refine lv_aload_n hx hb dX12_look_52 rfl (lv_at hl 0 rfl) ?_
    refine va_get (D := D) (ci := 11) (v := .int 0) (C := RX12) (T := TX12) (N := 85) hx hb hts inX12 hown hK hP 0 rfl rfl 2 (by decide) fl197 (fun _ h9 => h9) rfl dX12_look_53 ?_
    refine lv_aload_n hx hb dX12_look_56 rfl (lv_at hl 0 rfl) ?_
    refine va_get (D := D) (ci := 11) (v := .int 0) (C := RX12) (T := TX12) (N := 85) hx hb hts inX12 hown hK hP 0 rfl rfl 3 (by decide) fl200 (fun _ h9 => h9) rfl dX12_look_57 ?_
    refine lv_icmp_ge (tgt := 75) hx hb dX12_look_60 (by decide) (fun c_2 => ?_) (fun c_2 => ?_)
    · refine lv_iconst (v := (-1)) hx hb dX12_look_75 (by decide) ?_
      exact x_iret (v := (-1)) (u := ()) hx hb hr rfl hP hD hK hS [0] rfl (by decide) dX12_look_76 hlocks hQ
    · exact absurd (by decide) c_2
  · exact absurd (by decide) c_1

def v_m_reads0 : List Cond := .code yX12_reads cX12_reads 3 none :: ([.fieldLink RX12 191 "SlopeRunnerModel" "bad" "I", .fieldLink RX12 332 "SlopeRunnerModel" "blocks" "I"] ++ ((wsV RX12 203 RX12 yX12_look v_m_look0) ++ wsX120))
theorem g_m_reads0_0 : GoodIn v_m_reads0 (wsV RX12 203 RX12 yX12_look v_m_look0) := goodIn_sub (fun w h => List.mem_cons_of_mem _ (List.mem_append_right _ (List.mem_append_left _ h))) (by decide +kernel)
set_option maxHeartbeats 4000000 in
set_option maxRecDepth 100000 in
theorem m_reads0 (l : Launch) (D : va_G) (y : Nat → ClassId) (sz : Nat) (h0 : Nat) (ma : Nat → Nat) (mi : Nat → Int32) (mj : Nat → Int64) : Met l yX12_reads v_m_reads0 ({ frames := 1, cells := 0, slots := 0, locals := 20 } : Room) (va_Pc [.ref h0] (xPre D (xT y) [(h0, .inr (11, mF ma (upd (upd (upd (upd mi 2 0) 3 0) 5 0) 39 0) mj))] sz)) (va_Qv (fun (_ : Unit) => True) (fun (u : Unit) => xB D (xT y) (va_A [(h0, .inr (11, mF ma (upd (upd (upd (upd mi 2 0) 3 0) 5 0) 39 0) mj))] sz) [(h0, .inr (11, mF ma (upd (upd (upd (upd mi 2 0) 3 0) 5 0) 39 0) mj))]) (va_A [(h0, .inr (11, mF ma (upd (upd (upd (upd mi 2 0) 3 0) 5 0) 39 0) mj))] sz)) 0 0 (va_A [(h0, .inr (11, mF ma (upd (upd (upd (upd mi 2 0) 3 0) 5 0) 39 0) mj))] sz) := by
  refine x_metv (cc := cX12_reads) (maxL := 3) (by decide) rfl (Nat.le_of_ble_eq_true rfl) ?_
  intro p e s m below meth c A H locs Q hx hb hml hown hts hr hlocks hmn hA hP hK hD hS ls hl hQ
  have hl : lv_has ls 3 [(0, .ref h0)] := hl
  have fl191 := hts (.fieldLink RX12 191 "SlopeRunnerModel" "bad" "I") (by decide +kernel)
  have inX12 : ∀ w ∈ wsX120, w ∈ v_m_reads0 := (fun w h => List.mem_cons_of_mem _ (List.mem_append_right _ (List.mem_append_right _ h)))
  have fl332 := hts (.fieldLink RX12 332 "SlopeRunnerModel" "blocks" "I") (by decide +kernel)
  refine lv_iconst (v := 1) hx hb dX12_reads_0 (by decide) ?_
  refine lv_istore_n (lv' := [(1, .int 1), (0, .ref h0)]) hx hb dX12_reads_1 rfl hl (by decide) rfl (fun ls hl => ?_)
  refine lv_iload_n hx hb dX12_reads_2 rfl (lv_at hl 0 rfl) ?_
  refine lv_if_eq (tgt := 71) hx hb dX12_reads_3 (by decide) (fun c_1 => ?_) (fun c_1 => ?_)
  · exact absurd c_1 (by decide)
  · refine lv_aload_n hx hb dX12_reads_6 rfl (lv_at hl 1 rfl) ?_
    refine va_get (D := D) (ci := 11) (v := .int 0) (C := RX12) (T := TX12) (N := 85) hx hb hts inX12 hown hK hP 0 rfl rfl 5 (by decide) fl191 (fun _ h9 => h9) rfl dX12_reads_7 ?_
    refine lv_if_ne (tgt := 71) hx hb dX12_reads_10 (by decide) (fun c_2 => ?_) (fun c_2 => ?_)
    · exact absurd (by decide) c_2
    · refine lv_aload_n hx hb dX12_reads_13 rfl (lv_at hl 1 rfl) ?_
      refine x_calli (w1 := fun (u : Unit) => [(h0, .inr (11, mF ma (upd (upd (upd (upd (upd (upd mi 2 0) 3 0) 5 0) 39 0) 2 0) 3 0) mj))]) (wr := []) (ws' := fun (u : Unit) => [(h0, .inr (11, mF ma (upd (upd (upd (upd mi 2 0) 3 0) 5 0) 39 0) mj))]) (va_runV (As := []) (rest := []) ⟨hx, hb, hml, hown, hts⟩ (m_look0 l D y H.size h0 ma (upd (upd (upd (upd mi 2 0) 3 0) 5 0) 39 0) mj) (cwV 0 hts g_m_reads0_0 rfl rfl rfl (by decide +kernel) ⟨Nat.le_of_ble_eq_true rfl, Nat.le_of_ble_eq_true rfl⟩) (x_preV (q := (RX12, TX12, 85)) hK (x_subP hP [0] rfl) (x_subD hD [0] rfl (by decide)) (ci := 11) (q0 := 0) rfl rfl) rfl rfl hl.1 rfl (lv_room (Nat.le_of_ble_eq_true rfl)) dX12_reads_14 ⟨Nat.le_of_ble_eq_true rfl, Nat.le_of_ble_eq_true rfl⟩) hP hD hS hA [0] [] rfl rfl (by decide) (by decide) [0] (fun _ => rfl) (by decide) (fun r_3 u H locs hw hP hD hS => ?_)
      try dsimp only at hw
      obtain rfl : r_3 = (-1) := hw
      have hP : va_P D vwCl [(h0, .inr (11, mF ma (upd (upd (upd (upd mi 2 0) 3 0) 5 0) 39 0) mj))] H := hP
      have hD : va_D A [(h0, .inr (11, mF ma (upd (upd (upd (upd mi 2 0) 3 0) 5 0) 39 0) mj))] := hD
      refine lv_istore_n (lv' := [(2, .int (-1)), (1, .int 1), (0, .ref h0)]) hx hb dX12_reads_17 rfl hl (by decide) rfl (fun ls hl => ?_)
      refine lv_aload_n hx hb dX12_reads_18 rfl (lv_at hl 2 rfl) ?_
      refine va_get (D := D) (ci := 11) (v := .int 0) (C := RX12) (T := TX12) (N := 85) hx hb hts inX12 hown hK hP 0 rfl rfl 39 (by decide) fl332 (fun _ h9 => h9) rfl dX12_reads_19 ?_
      refine lv_if_le (tgt := 38) hx hb dX12_reads_22 (by decide) (fun c_4 => ?_) (fun c_4 => ?_)
      · refine lv_iload_n hx hb dX12_reads_38 rfl (lv_at hl 0 rfl) ?_
        refine lv_iconst (v := (-1)) hx hb dX12_reads_39 (by decide) ?_
        refine lv_icmp_eq (tgt := 50) hx hb dX12_reads_40 (by decide) (fun c_5 => ?_) (fun c_5 => ?_)
        · refine lv_iconst (v := 0) hx hb dX12_reads_50 (by decide) ?_
          refine lv_istore_n (lv' := [(1, .int 0), (2, .int (-1)), (0, .ref h0)]) hx hb dX12_reads_51 rfl hl (by decide) rfl (fun ls hl => ?_)
          refine lv_aload_n hx hb dX12_reads_52 rfl (lv_at hl 2 rfl) ?_
          refine va_get (D := D) (ci := 11) (v := .int 0) (C := RX12) (T := TX12) (N := 85) hx hb hts inX12 hown hK hP 0 rfl rfl 39 (by decide) fl332 (fun _ h9 => h9) rfl dX12_reads_53 ?_
          refine lv_if_le (tgt := 68) hx hb dX12_reads_56 (by decide) (fun c_6 => ?_) (fun c_6 => ?_)
          · refine lv_goto (tgt := 2) hx hb dX12_reads_68 (by decide) ?_
            refine lv_iload_n hx hb dX12_reads_2 rfl (lv_at hl 0 rfl) ?_
            refine lv_if_eq (tgt := 71) hx hb dX12_reads_3 (by decide) (fun c_7 => ?_) (fun c_7 => ?_)
            · exact x_vret (u := ()) hx hb hr trivial hP hD hK hS [0] rfl (by decide) dX12_reads_71 hlocks hQ
            · exact absurd (by decide) c_7
          · exact absurd (by decide) c_6
        · exact absurd (by decide) c_5
      · exact absurd (by decide) c_4

def v_m_program0 : List Cond := .code yX12_program cX12_program 2 (some .int) :: ([.fieldLink RX12 188 "SlopeRunnerModel" "taped" "I", .fieldLink RX12 200 "SlopeRunnerModel" "end" "I", .fieldLink RX12 197 "SlopeRunnerModel" "at" "I", .fieldLink RX12 211 "SlopeRunnerModel" "ended" "I", .fieldLink RX12 191 "SlopeRunnerModel" "bad" "I", .fieldLink RX12 194 "SlopeRunnerModel" "badPlace" "I", .fieldLink RX12 60 "SlopeRunnerModel" "has" "[I", .fieldLink RX12 246 "SlopeRunnerModel" "coded" "I", .fieldLink RX12 249 "SlopeRunnerModel" "names" "I", .fieldLink RX12 332 "SlopeRunnerModel" "blocks" "I", .fieldLink RX12 260 "SlopeRunnerModel" "open" "I", .fieldLink RX12 362 "SlopeRunnerModel" "fault" "I", .fieldLink RX12 13 "SlopeRunnerModel" "faultPlace" "I", .fieldLink RX12 63 "SlopeRunnerModel" "sizeOf" "[I", .fieldLink RX12 72 "SlopeRunnerModel" "codeMany" "[I", .fieldLink RX12 97 "SlopeRunnerModel" "putAbove" "[J", .fieldLink RX12 100 "SlopeRunnerModel" "putBelow" "[J", .fieldLink RX12 365 "SlopeRunnerModel" "done" "I", .fieldLink RX12 368 "SlopeRunnerModel" "doneAll" "I", .fieldLink RX12 371 "SlopeRunnerModel" "hasRun" "Z", .fieldLink RX12 375 "SlopeRunnerModel" "hasGroups" "Z"] ++ ((wsV RX12 359 RX12 yX12_reads v_m_reads0) ++ wsX120))
theorem g_m_program0_0 : GoodIn v_m_program0 (wsV RX12 359 RX12 yX12_reads v_m_reads0) := goodIn_sub (fun w h => List.mem_cons_of_mem _ (List.mem_append_right _ (List.mem_append_left _ h))) (by decide +kernel)
set_option maxHeartbeats 4000000 in
set_option maxRecDepth 100000 in
theorem m_program0 (l : Launch) (D : va_G) (y : Nat → ClassId) (sz : Nat) (h0 : Nat) (ma : Nat → Nat) (mi : Nat → Int32) (mj : Nat → Int64) (fa fb : Nat → Int64) : Met l yX12_program v_m_program0 ({ frames := 2, cells := 0, slots := 0, locals := 42 } : Room) (va_Pc [.ref h0] (xPre D (xT y) [(h0, .inr (11, mF ma (upd mi 1 0) mj)), ((ma 24), .inl (y 2, 10, .inl (fun _ => 0))), ((ma 25), .inl (y 2, 8, .inl (fun _ => 0))), ((ma 28), .inl (y 2, 2, .inl (fun _ => 0))), ((ma 45), .inl (y 3, 8, .inr (.inl fa))), ((ma 46), .inl (y 3, 8, .inr (.inl fb)))] sz)) (va_Qi (fun (r : Int32) (_ : (Nat → Int32) × (Nat → Int32) × (Nat → Int32) × (Nat → Int64) × (Nat → Int64)) => r = 0) (fun (u : (Nat → Int32) × (Nat → Int32) × (Nat → Int32) × (Nat → Int64) × (Nat → Int64)) => xB D (xT y) (va_A [(h0, .inr (11, mF ma (upd mi 1 0) mj)), ((ma 24), .inl (y 2, 10, .inl (fun _ => 0))), ((ma 25), .inl (y 2, 8, .inl (fun _ => 0))), ((ma 28), .inl (y 2, 2, .inl (fun _ => 0))), ((ma 45), .inl (y 3, 8, .inr (.inl fa))), ((ma 46), .inl (y 3, 8, .inr (.inl fb)))] sz) [(h0, .inr (11, mF ma (upd (upd (upd (upd (upd (upd (upd (upd (upd (upd (upd (upd (upd (upd (upd (upd mi 1 0) 2 0) 3 0) 4 (-1)) 5 0) 6 (-1)) 7 0) 8 (-1)) 29 0) 32 0) 33 0) 39 0) 47 0) 48 0) 54 0) 78 0) mj)), ((ma 24), .inl (y 2, 10, .inl u.1)), ((ma 25), .inl (y 2, 8, .inl u.2.1)), ((ma 28), .inl (y 2, 2, .inl u.2.2.1)), ((ma 45), .inl (y 3, 8, .inr (.inl u.2.2.2.1))), ((ma 46), .inl (y 3, 8, .inr (.inl u.2.2.2.2)))]) (va_A [(h0, .inr (11, mF ma (upd mi 1 0) mj)), ((ma 24), .inl (y 2, 10, .inl (fun _ => 0))), ((ma 25), .inl (y 2, 8, .inl (fun _ => 0))), ((ma 28), .inl (y 2, 2, .inl (fun _ => 0))), ((ma 45), .inl (y 3, 8, .inr (.inl fa))), ((ma 46), .inl (y 3, 8, .inr (.inl fb)))] sz)) 0 0 (va_A [(h0, .inr (11, mF ma (upd mi 1 0) mj)), ((ma 24), .inl (y 2, 10, .inl (fun _ => 0))), ((ma 25), .inl (y 2, 8, .inl (fun _ => 0))), ((ma 28), .inl (y 2, 2, .inl (fun _ => 0))), ((ma 45), .inl (y 3, 8, .inr (.inl fa))), ((ma 46), .inl (y 3, 8, .inr (.inl fb)))] sz) := by
  refine x_meti (cc := cX12_program) (maxL := 2) (by decide) rfl (Nat.le_of_ble_eq_true rfl) ?_
  intro p e s m below meth c A H locs Q hx hb hml hown hts hr hlocks hmn hA hP hK hD hS ls hl hQ
  have hl : lv_has ls 2 [(0, .ref h0)] := hl
  have fl188 := hts (.fieldLink RX12 188 "SlopeRunnerModel" "taped" "I") (by decide +kernel)
  have inX12 : ∀ w ∈ wsX120, w ∈ v_m_program0 := (fun w h => List.mem_cons_of_mem _ (List.mem_append_right _ (List.mem_append_right _ h)))
  have fl200 := hts (.fieldLink RX12 200 "SlopeRunnerModel" "end" "I") (by decide +kernel)
  have fl197 := hts (.fieldLink RX12 197 "SlopeRunnerModel" "at" "I") (by decide +kernel)
  have fl211 := hts (.fieldLink RX12 211 "SlopeRunnerModel" "ended" "I") (by decide +kernel)
  have fl191 := hts (.fieldLink RX12 191 "SlopeRunnerModel" "bad" "I") (by decide +kernel)
  have fl194 := hts (.fieldLink RX12 194 "SlopeRunnerModel" "badPlace" "I") (by decide +kernel)
  have fl60 := hts (.fieldLink RX12 60 "SlopeRunnerModel" "has" "[I") (by decide +kernel)
  have fl246 := hts (.fieldLink RX12 246 "SlopeRunnerModel" "coded" "I") (by decide +kernel)
  have fl249 := hts (.fieldLink RX12 249 "SlopeRunnerModel" "names" "I") (by decide +kernel)
  have fl332 := hts (.fieldLink RX12 332 "SlopeRunnerModel" "blocks" "I") (by decide +kernel)
  have fl260 := hts (.fieldLink RX12 260 "SlopeRunnerModel" "open" "I") (by decide +kernel)
  have fl362 := hts (.fieldLink RX12 362 "SlopeRunnerModel" "fault" "I") (by decide +kernel)
  have fl13 := hts (.fieldLink RX12 13 "SlopeRunnerModel" "faultPlace" "I") (by decide +kernel)
  have fl63 := hts (.fieldLink RX12 63 "SlopeRunnerModel" "sizeOf" "[I") (by decide +kernel)
  have fl72 := hts (.fieldLink RX12 72 "SlopeRunnerModel" "codeMany" "[I") (by decide +kernel)
  have fl97 := hts (.fieldLink RX12 97 "SlopeRunnerModel" "putAbove" "[J") (by decide +kernel)
  have fl100 := hts (.fieldLink RX12 100 "SlopeRunnerModel" "putBelow" "[J") (by decide +kernel)
  have fl365 := hts (.fieldLink RX12 365 "SlopeRunnerModel" "done" "I") (by decide +kernel)
  have fl368 := hts (.fieldLink RX12 368 "SlopeRunnerModel" "doneAll" "I") (by decide +kernel)
  have fl371 := hts (.fieldLink RX12 371 "SlopeRunnerModel" "hasRun" "Z") (by decide +kernel)
  have fl375 := hts (.fieldLink RX12 375 "SlopeRunnerModel" "hasGroups" "Z") (by decide +kernel)
  refine lv_aload_n hx hb dX12_program_0 rfl (lv_at hl 0 rfl) ?_
  refine lv_aload_n hx hb dX12_program_1 rfl (lv_at hl 0 rfl) ?_
  refine va_get (D := D) (ci := 11) (v := .int 0) (C := RX12) (T := TX12) (N := 85) hx hb hts inX12 hown hK hP 0 rfl rfl 1 (by decide) fl188 (fun _ h9 => h9) rfl dX12_program_2 ?_
  refine va_put (D := D) (ci := 11) (v := .int 0) (ty := .int) (C := RX12) (T := TX12) (N := 85) hx hb hts inX12 tyX12 tyX12_ok nmX12 hown hK hP hD hS 0 rfl rfl 3 (by decide) fl200 (fun _ h9 => h9) rfl (by decide +kernel) rfl rfl (Nat.le_of_ble_eq_true rfl) dX12_program_5 (fun H locs hP hD hS => ?_)
  have hP : va_P D vwCl [(h0, .inr (11, mF ma (upd (upd mi 1 0) 3 0) mj)), ((ma 24), .inl (y 2, 10, .inl (fun _ => 0))), ((ma 25), .inl (y 2, 8, .inl (fun _ => 0))), ((ma 28), .inl (y 2, 2, .inl (fun _ => 0))), ((ma 45), .inl (y 3, 8, .inr (.inl fa))), ((ma 46), .inl (y 3, 8, .inr (.inl fb)))] H := hP
  have hD : va_D A [(h0, .inr (11, mF ma (upd (upd mi 1 0) 3 0) mj)), ((ma 24), .inl (y 2, 10, .inl (fun _ => 0))), ((ma 25), .inl (y 2, 8, .inl (fun _ => 0))), ((ma 28), .inl (y 2, 2, .inl (fun _ => 0))), ((ma 45), .inl (y 3, 8, .inr (.inl fa))), ((ma 46), .inl (y 3, 8, .inr (.inl fb)))] := hD
  refine lv_aload_n hx hb dX12_program_8 rfl (lv_at hl 0 rfl) ?_
  refine lv_iconst (v := 0) hx hb dX12_program_9 (by decide) ?_
  refine va_put (D := D) (ci := 11) (v := .int 0) (ty := .int) (C := RX12) (T := TX12) (N := 85) hx hb hts inX12 tyX12 tyX12_ok nmX12 hown hK hP hD hS 0 rfl rfl 1 (by decide) fl188 (fun _ h9 => h9) rfl (by decide +kernel) rfl rfl (Nat.le_of_ble_eq_true rfl) dX12_program_10 (fun H locs hP hD hS => ?_)
  have hP : va_P D vwCl [(h0, .inr (11, mF ma (upd (upd mi 1 0) 3 0) mj)), ((ma 24), .inl (y 2, 10, .inl (fun _ => 0))), ((ma 25), .inl (y 2, 8, .inl (fun _ => 0))), ((ma 28), .inl (y 2, 2, .inl (fun _ => 0))), ((ma 45), .inl (y 3, 8, .inr (.inl fa))), ((ma 46), .inl (y 3, 8, .inr (.inl fb)))] H := hP
  have hD : va_D A [(h0, .inr (11, mF ma (upd (upd mi 1 0) 3 0) mj)), ((ma 24), .inl (y 2, 10, .inl (fun _ => 0))), ((ma 25), .inl (y 2, 8, .inl (fun _ => 0))), ((ma 28), .inl (y 2, 2, .inl (fun _ => 0))), ((ma 45), .inl (y 3, 8, .inr (.inl fa))), ((ma 46), .inl (y 3, 8, .inr (.inl fb)))] := hD
  refine lv_aload_n hx hb dX12_program_13 rfl (lv_at hl 0 rfl) ?_
  refine lv_iconst (v := 0) hx hb dX12_program_14 (by decide) ?_
  refine va_put (D := D) (ci := 11) (v := .int 0) (ty := .int) (C := RX12) (T := TX12) (N := 85) hx hb hts inX12 tyX12 tyX12_ok nmX12 hown hK hP hD hS 0 rfl rfl 2 (by decide) fl197 (fun _ h9 => h9) rfl (by decide +kernel) rfl rfl (Nat.le_of_ble_eq_true rfl) dX12_program_15 (fun H locs hP hD hS => ?_)
  have hP : va_P D vwCl [(h0, .inr (11, mF ma (upd (upd (upd mi 1 0) 2 0) 3 0) mj)), ((ma 24), .inl (y 2, 10, .inl (fun _ => 0))), ((ma 25), .inl (y 2, 8, .inl (fun _ => 0))), ((ma 28), .inl (y 2, 2, .inl (fun _ => 0))), ((ma 45), .inl (y 3, 8, .inr (.inl fa))), ((ma 46), .inl (y 3, 8, .inr (.inl fb)))] H := hP
  have hD : va_D A [(h0, .inr (11, mF ma (upd (upd (upd mi 1 0) 2 0) 3 0) mj)), ((ma 24), .inl (y 2, 10, .inl (fun _ => 0))), ((ma 25), .inl (y 2, 8, .inl (fun _ => 0))), ((ma 28), .inl (y 2, 2, .inl (fun _ => 0))), ((ma 45), .inl (y 3, 8, .inr (.inl fa))), ((ma 46), .inl (y 3, 8, .inr (.inl fb)))] := hD
  refine lv_aload_n hx hb dX12_program_18 rfl (lv_at hl 0 rfl) ?_
  refine lv_iconst (v := (-1)) hx hb dX12_program_19 (by decide) ?_
  refine va_put (D := D) (ci := 11) (v := .int (-1)) (ty := .int) (C := RX12) (T := TX12) (N := 85) hx hb hts inX12 tyX12 tyX12_ok nmX12 hown hK hP hD hS 0 rfl rfl 4 (by decide) fl211 (fun _ h9 => h9) rfl (by decide +kernel) rfl rfl (Nat.le_of_ble_eq_true rfl) dX12_program_20 (fun H locs hP hD hS => ?_)
  have hP : va_P D vwCl [(h0, .inr (11, mF ma (upd (upd (upd (upd mi 1 0) 2 0) 3 0) 4 (-1)) mj)), ((ma 24), .inl (y 2, 10, .inl (fun _ => 0))), ((ma 25), .inl (y 2, 8, .inl (fun _ => 0))), ((ma 28), .inl (y 2, 2, .inl (fun _ => 0))), ((ma 45), .inl (y 3, 8, .inr (.inl fa))), ((ma 46), .inl (y 3, 8, .inr (.inl fb)))] H := hP
  have hD : va_D A [(h0, .inr (11, mF ma (upd (upd (upd (upd mi 1 0) 2 0) 3 0) 4 (-1)) mj)), ((ma 24), .inl (y 2, 10, .inl (fun _ => 0))), ((ma 25), .inl (y 2, 8, .inl (fun _ => 0))), ((ma 28), .inl (y 2, 2, .inl (fun _ => 0))), ((ma 45), .inl (y 3, 8, .inr (.inl fa))), ((ma 46), .inl (y 3, 8, .inr (.inl fb)))] := hD
  refine lv_aload_n hx hb dX12_program_23 rfl (lv_at hl 0 rfl) ?_
  refine lv_iconst (v := 0) hx hb dX12_program_24 (by decide) ?_
  refine va_put (D := D) (ci := 11) (v := .int 0) (ty := .int) (C := RX12) (T := TX12) (N := 85) hx hb hts inX12 tyX12 tyX12_ok nmX12 hown hK hP hD hS 0 rfl rfl 5 (by decide) fl191 (fun _ h9 => h9) rfl (by decide +kernel) rfl rfl (Nat.le_of_ble_eq_true rfl) dX12_program_25 (fun H locs hP hD hS => ?_)
  have hP : va_P D vwCl [(h0, .inr (11, mF ma (upd (upd (upd (upd (upd mi 1 0) 2 0) 3 0) 4 (-1)) 5 0) mj)), ((ma 24), .inl (y 2, 10, .inl (fun _ => 0))), ((ma 25), .inl (y 2, 8, .inl (fun _ => 0))), ((ma 28), .inl (y 2, 2, .inl (fun _ => 0))), ((ma 45), .inl (y 3, 8, .inr (.inl fa))), ((ma 46), .inl (y 3, 8, .inr (.inl fb)))] H := hP
  have hD : va_D A [(h0, .inr (11, mF ma (upd (upd (upd (upd (upd mi 1 0) 2 0) 3 0) 4 (-1)) 5 0) mj)), ((ma 24), .inl (y 2, 10, .inl (fun _ => 0))), ((ma 25), .inl (y 2, 8, .inl (fun _ => 0))), ((ma 28), .inl (y 2, 2, .inl (fun _ => 0))), ((ma 45), .inl (y 3, 8, .inr (.inl fa))), ((ma 46), .inl (y 3, 8, .inr (.inl fb)))] := hD
  refine lv_aload_n hx hb dX12_program_28 rfl (lv_at hl 0 rfl) ?_
  refine lv_iconst (v := (-1)) hx hb dX12_program_29 (by decide) ?_
  refine va_put (D := D) (ci := 11) (v := .int (-1)) (ty := .int) (C := RX12) (T := TX12) (N := 85) hx hb hts inX12 tyX12 tyX12_ok nmX12 hown hK hP hD hS 0 rfl rfl 6 (by decide) fl194 (fun _ h9 => h9) rfl (by decide +kernel) rfl rfl (Nat.le_of_ble_eq_true rfl) dX12_program_30 (fun H locs hP hD hS => ?_)
  have hP : va_P D vwCl [(h0, .inr (11, mF ma (upd (upd (upd (upd (upd (upd mi 1 0) 2 0) 3 0) 4 (-1)) 5 0) 6 (-1)) mj)), ((ma 24), .inl (y 2, 10, .inl (fun _ => 0))), ((ma 25), .inl (y 2, 8, .inl (fun _ => 0))), ((ma 28), .inl (y 2, 2, .inl (fun _ => 0))), ((ma 45), .inl (y 3, 8, .inr (.inl fa))), ((ma 46), .inl (y 3, 8, .inr (.inl fb)))] H := hP
  have hD : va_D A [(h0, .inr (11, mF ma (upd (upd (upd (upd (upd (upd mi 1 0) 2 0) 3 0) 4 (-1)) 5 0) 6 (-1)) mj)), ((ma 24), .inl (y 2, 10, .inl (fun _ => 0))), ((ma 25), .inl (y 2, 8, .inl (fun _ => 0))), ((ma 28), .inl (y 2, 2, .inl (fun _ => 0))), ((ma 45), .inl (y 3, 8, .inr (.inl fa))), ((ma 46), .inl (y 3, 8, .inr (.inl fb)))] := hD
  refine lv_iconst (v := 0) hx hb dX12_program_33 (by decide) ?_
  refine lv_istore_n (lv' := [(1, .int 0), (0, .ref h0)]) hx hb dX12_program_34 rfl hl (by decide) rfl (fun ls hl => ?_)
  refine lv_iload_n hx hb dX12_program_35 rfl (lv_at hl 0 rfl) ?_
  refine lv_iconst (v := 5) hx hb dX12_program_36 (by decide) ?_
  refine lv_icmp_ge (tgt := 53) hx hb dX12_program_37 (by decide) (fun c_1 => ?_) (fun c_1 => ?_)
  · exact absurd c_1 (by decide)
  · refine lv_aload_n hx hb dX12_program_40 rfl (lv_at hl 1 rfl) ?_
    refine va_get (D := D) (ci := 11) (v := .ref (ma 24)) (C := RX12) (T := TX12) (N := 85) hx hb hts inX12 hown hK hP 0 rfl rfl 24 (by decide) fl60 (fun _ h9 => h9) rfl dX12_program_41 ?_
    refine lv_iload_n hx hb dX12_program_44 rfl (lv_at hl 0 rfl) ?_
    refine lv_iconst (v := 0) hx hb dX12_program_45 (by decide) ?_
    refine va_iast hx hb hK hP hD hS 1 2 rfl rfl (x_in (by decide) (by decide)) dX12_program_46 (fun H locs hP hD hS => ?_)
    have hP : va_P D vwCl [(h0, .inr (11, mF ma (upd (upd (upd (upd (upd (upd mi 1 0) 2 0) 3 0) 4 (-1)) 5 0) 6 (-1)) mj)), ((ma 24), .inl (y 2, 10, .inl (upd (fun _ => 0) (Int32.toNatClampNeg 0) 0))), ((ma 25), .inl (y 2, 8, .inl (fun _ => 0))), ((ma 28), .inl (y 2, 2, .inl (fun _ => 0))), ((ma 45), .inl (y 3, 8, .inr (.inl fa))), ((ma 46), .inl (y 3, 8, .inr (.inl fb)))] H := hP
    have hD : va_D A [(h0, .inr (11, mF ma (upd (upd (upd (upd (upd (upd mi 1 0) 2 0) 3 0) 4 (-1)) 5 0) 6 (-1)) mj)), ((ma 24), .inl (y 2, 10, .inl (upd (fun _ => 0) (Int32.toNatClampNeg 0) 0))), ((ma 25), .inl (y 2, 8, .inl (fun _ => 0))), ((ma 28), .inl (y 2, 2, .inl (fun _ => 0))), ((ma 45), .inl (y 3, 8, .inr (.inl fa))), ((ma 46), .inl (y 3, 8, .inr (.inl fb)))] := hD
    refine lv_iinc (v := 1) (lv' := [(1, .int 1), (0, .ref h0)]) hx hb dX12_program_47 hl (k := 0) rfl (by decide) (by decide) rfl (fun ls hl => ?_)
    refine lv_goto (tgt := 35) hx hb dX12_program_50 (by decide) ?_
    refine lv_iload_n hx hb dX12_program_35 rfl (lv_at hl 0 rfl) ?_
    refine lv_iconst (v := 5) hx hb dX12_program_36 (by decide) ?_
    refine lv_icmp_ge (tgt := 53) hx hb dX12_program_37 (by decide) (fun c_2 => ?_) (fun c_2 => ?_)
    · exact absurd c_2 (by decide)
    · refine lv_aload_n hx hb dX12_program_40 rfl (lv_at hl 1 rfl) ?_
      refine va_get (D := D) (ci := 11) (v := .ref (ma 24)) (C := RX12) (T := TX12) (N := 85) hx hb hts inX12 hown hK hP 0 rfl rfl 24 (by decide) fl60 (fun _ h9 => h9) rfl dX12_program_41 ?_
      refine lv_iload_n hx hb dX12_program_44 rfl (lv_at hl 0 rfl) ?_
      refine lv_iconst (v := 0) hx hb dX12_program_45 (by decide) ?_
      refine va_iast hx hb hK hP hD hS 1 2 rfl rfl (x_in (by decide) (by decide)) dX12_program_46 (fun H locs hP hD hS => ?_)
      have hP : va_P D vwCl [(h0, .inr (11, mF ma (upd (upd (upd (upd (upd (upd mi 1 0) 2 0) 3 0) 4 (-1)) 5 0) 6 (-1)) mj)), ((ma 24), .inl (y 2, 10, .inl (upd (upd (fun _ => 0) (Int32.toNatClampNeg 0) 0) (Int32.toNatClampNeg 1) 0))), ((ma 25), .inl (y 2, 8, .inl (fun _ => 0))), ((ma 28), .inl (y 2, 2, .inl (fun _ => 0))), ((ma 45), .inl (y 3, 8, .inr (.inl fa))), ((ma 46), .inl (y 3, 8, .inr (.inl fb)))] H := hP
      have hD : va_D A [(h0, .inr (11, mF ma (upd (upd (upd (upd (upd (upd mi 1 0) 2 0) 3 0) 4 (-1)) 5 0) 6 (-1)) mj)), ((ma 24), .inl (y 2, 10, .inl (upd (upd (fun _ => 0) (Int32.toNatClampNeg 0) 0) (Int32.toNatClampNeg 1) 0))), ((ma 25), .inl (y 2, 8, .inl (fun _ => 0))), ((ma 28), .inl (y 2, 2, .inl (fun _ => 0))), ((ma 45), .inl (y 3, 8, .inr (.inl fa))), ((ma 46), .inl (y 3, 8, .inr (.inl fb)))] := hD
      refine lv_iinc (v := 2) (lv' := [(1, .int 2), (0, .ref h0)]) hx hb dX12_program_47 hl (k := 0) rfl (by decide) (by decide) rfl (fun ls hl => ?_)
      refine lv_goto (tgt := 35) hx hb dX12_program_50 (by decide) ?_
      refine lv_iload_n hx hb dX12_program_35 rfl (lv_at hl 0 rfl) ?_
      refine lv_iconst (v := 5) hx hb dX12_program_36 (by decide) ?_
      refine lv_icmp_ge (tgt := 53) hx hb dX12_program_37 (by decide) (fun c_3 => ?_) (fun c_3 => ?_)
      · exact absurd c_3 (by decide)
      · refine lv_aload_n hx hb dX12_program_40 rfl (lv_at hl 1 rfl) ?_
        refine va_get (D := D) (ci := 11) (v := .ref (ma 24)) (C := RX12) (T := TX12) (N := 85) hx hb hts inX12 hown hK hP 0 rfl rfl 24 (by decide) fl60 (fun _ h9 => h9) rfl dX12_program_41 ?_
        refine lv_iload_n hx hb dX12_program_44 rfl (lv_at hl 0 rfl) ?_
        refine lv_iconst (v := 0) hx hb dX12_program_45 (by decide) ?_
        refine va_iast hx hb hK hP hD hS 1 2 rfl rfl (x_in (by decide) (by decide)) dX12_program_46 (fun H locs hP hD hS => ?_)
        have hP : va_P D vwCl [(h0, .inr (11, mF ma (upd (upd (upd (upd (upd (upd mi 1 0) 2 0) 3 0) 4 (-1)) 5 0) 6 (-1)) mj)), ((ma 24), .inl (y 2, 10, .inl (upd (upd (upd (fun _ => 0) (Int32.toNatClampNeg 0) 0) (Int32.toNatClampNeg 1) 0) (Int32.toNatClampNeg 2) 0))), ((ma 25), .inl (y 2, 8, .inl (fun _ => 0))), ((ma 28), .inl (y 2, 2, .inl (fun _ => 0))), ((ma 45), .inl (y 3, 8, .inr (.inl fa))), ((ma 46), .inl (y 3, 8, .inr (.inl fb)))] H := hP
        have hD : va_D A [(h0, .inr (11, mF ma (upd (upd (upd (upd (upd (upd mi 1 0) 2 0) 3 0) 4 (-1)) 5 0) 6 (-1)) mj)), ((ma 24), .inl (y 2, 10, .inl (upd (upd (upd (fun _ => 0) (Int32.toNatClampNeg 0) 0) (Int32.toNatClampNeg 1) 0) (Int32.toNatClampNeg 2) 0))), ((ma 25), .inl (y 2, 8, .inl (fun _ => 0))), ((ma 28), .inl (y 2, 2, .inl (fun _ => 0))), ((ma 45), .inl (y 3, 8, .inr (.inl fa))), ((ma 46), .inl (y 3, 8, .inr (.inl fb)))] := hD
        refine lv_iinc (v := 3) (lv' := [(1, .int 3), (0, .ref h0)]) hx hb dX12_program_47 hl (k := 0) rfl (by decide) (by decide) rfl (fun ls hl => ?_)
        refine lv_goto (tgt := 35) hx hb dX12_program_50 (by decide) ?_
        refine lv_iload_n hx hb dX12_program_35 rfl (lv_at hl 0 rfl) ?_
        refine lv_iconst (v := 5) hx hb dX12_program_36 (by decide) ?_
        refine lv_icmp_ge (tgt := 53) hx hb dX12_program_37 (by decide) (fun c_4 => ?_) (fun c_4 => ?_)
        · exact absurd c_4 (by decide)
        · refine lv_aload_n hx hb dX12_program_40 rfl (lv_at hl 1 rfl) ?_
          refine va_get (D := D) (ci := 11) (v := .ref (ma 24)) (C := RX12) (T := TX12) (N := 85) hx hb hts inX12 hown hK hP 0 rfl rfl 24 (by decide) fl60 (fun _ h9 => h9) rfl dX12_program_41 ?_
          refine lv_iload_n hx hb dX12_program_44 rfl (lv_at hl 0 rfl) ?_
          refine lv_iconst (v := 0) hx hb dX12_program_45 (by decide) ?_
          refine va_iast hx hb hK hP hD hS 1 2 rfl rfl (x_in (by decide) (by decide)) dX12_program_46 (fun H locs hP hD hS => ?_)
          have hP : va_P D vwCl [(h0, .inr (11, mF ma (upd (upd (upd (upd (upd (upd mi 1 0) 2 0) 3 0) 4 (-1)) 5 0) 6 (-1)) mj)), ((ma 24), .inl (y 2, 10, .inl (upd (upd (upd (upd (fun _ => 0) (Int32.toNatClampNeg 0) 0) (Int32.toNatClampNeg 1) 0) (Int32.toNatClampNeg 2) 0) (Int32.toNatClampNeg 3) 0))), ((ma 25), .inl (y 2, 8, .inl (fun _ => 0))), ((ma 28), .inl (y 2, 2, .inl (fun _ => 0))), ((ma 45), .inl (y 3, 8, .inr (.inl fa))), ((ma 46), .inl (y 3, 8, .inr (.inl fb)))] H := hP
          have hD : va_D A [(h0, .inr (11, mF ma (upd (upd (upd (upd (upd (upd mi 1 0) 2 0) 3 0) 4 (-1)) 5 0) 6 (-1)) mj)), ((ma 24), .inl (y 2, 10, .inl (upd (upd (upd (upd (fun _ => 0) (Int32.toNatClampNeg 0) 0) (Int32.toNatClampNeg 1) 0) (Int32.toNatClampNeg 2) 0) (Int32.toNatClampNeg 3) 0))), ((ma 25), .inl (y 2, 8, .inl (fun _ => 0))), ((ma 28), .inl (y 2, 2, .inl (fun _ => 0))), ((ma 45), .inl (y 3, 8, .inr (.inl fa))), ((ma 46), .inl (y 3, 8, .inr (.inl fb)))] := hD
          refine lv_iinc (v := 4) (lv' := [(1, .int 4), (0, .ref h0)]) hx hb dX12_program_47 hl (k := 0) rfl (by decide) (by decide) rfl (fun ls hl => ?_)
          refine lv_goto (tgt := 35) hx hb dX12_program_50 (by decide) ?_
          refine lv_iload_n hx hb dX12_program_35 rfl (lv_at hl 0 rfl) ?_
          refine lv_iconst (v := 5) hx hb dX12_program_36 (by decide) ?_
          refine lv_icmp_ge (tgt := 53) hx hb dX12_program_37 (by decide) (fun c_5 => ?_) (fun c_5 => ?_)
          · exact absurd c_5 (by decide)
          · refine lv_aload_n hx hb dX12_program_40 rfl (lv_at hl 1 rfl) ?_
            refine va_get (D := D) (ci := 11) (v := .ref (ma 24)) (C := RX12) (T := TX12) (N := 85) hx hb hts inX12 hown hK hP 0 rfl rfl 24 (by decide) fl60 (fun _ h9 => h9) rfl dX12_program_41 ?_
            refine lv_iload_n hx hb dX12_program_44 rfl (lv_at hl 0 rfl) ?_
            refine lv_iconst (v := 0) hx hb dX12_program_45 (by decide) ?_
            refine va_iast hx hb hK hP hD hS 1 2 rfl rfl (x_in (by decide) (by decide)) dX12_program_46 (fun H locs hP hD hS => ?_)
            have hP : va_P D vwCl [(h0, .inr (11, mF ma (upd (upd (upd (upd (upd (upd mi 1 0) 2 0) 3 0) 4 (-1)) 5 0) 6 (-1)) mj)), ((ma 24), .inl (y 2, 10, .inl (upd (upd (upd (upd (upd (fun _ => 0) (Int32.toNatClampNeg 0) 0) (Int32.toNatClampNeg 1) 0) (Int32.toNatClampNeg 2) 0) (Int32.toNatClampNeg 3) 0) (Int32.toNatClampNeg 4) 0))), ((ma 25), .inl (y 2, 8, .inl (fun _ => 0))), ((ma 28), .inl (y 2, 2, .inl (fun _ => 0))), ((ma 45), .inl (y 3, 8, .inr (.inl fa))), ((ma 46), .inl (y 3, 8, .inr (.inl fb)))] H := hP
            have hD : va_D A [(h0, .inr (11, mF ma (upd (upd (upd (upd (upd (upd mi 1 0) 2 0) 3 0) 4 (-1)) 5 0) 6 (-1)) mj)), ((ma 24), .inl (y 2, 10, .inl (upd (upd (upd (upd (upd (fun _ => 0) (Int32.toNatClampNeg 0) 0) (Int32.toNatClampNeg 1) 0) (Int32.toNatClampNeg 2) 0) (Int32.toNatClampNeg 3) 0) (Int32.toNatClampNeg 4) 0))), ((ma 25), .inl (y 2, 8, .inl (fun _ => 0))), ((ma 28), .inl (y 2, 2, .inl (fun _ => 0))), ((ma 45), .inl (y 3, 8, .inr (.inl fa))), ((ma 46), .inl (y 3, 8, .inr (.inl fb)))] := hD
            refine lv_iinc (v := 5) (lv' := [(1, .int 5), (0, .ref h0)]) hx hb dX12_program_47 hl (k := 0) rfl (by decide) (by decide) rfl (fun ls hl => ?_)
            refine lv_goto (tgt := 35) hx hb dX12_program_50 (by decide) ?_
            refine lv_iload_n hx hb dX12_program_35 rfl (lv_at hl 0 rfl) ?_
            refine lv_iconst (v := 5) hx hb dX12_program_36 (by decide) ?_
            refine lv_icmp_ge (tgt := 53) hx hb dX12_program_37 (by decide) (fun c_6 => ?_) (fun c_6 => ?_)
            · refine lv_aload_n hx hb dX12_program_53 rfl (lv_at hl 1 rfl) ?_
              refine lv_iconst (v := 0) hx hb dX12_program_54 (by decide) ?_
              refine va_put (D := D) (ci := 11) (v := .int 0) (ty := .int) (C := RX12) (T := TX12) (N := 85) hx hb hts inX12 tyX12 tyX12_ok nmX12 hown hK hP hD hS 0 rfl rfl 29 (by decide) fl246 (fun _ h9 => h9) rfl (by decide +kernel) rfl rfl (Nat.le_of_ble_eq_true rfl) dX12_program_55 (fun H locs hP hD hS => ?_)
              have hP : va_P D vwCl [(h0, .inr (11, mF ma (upd (upd (upd (upd (upd (upd (upd mi 1 0) 2 0) 3 0) 4 (-1)) 5 0) 6 (-1)) 29 0) mj)), ((ma 24), .inl (y 2, 10, .inl (upd (upd (upd (upd (upd (fun _ => 0) (Int32.toNatClampNeg 0) 0) (Int32.toNatClampNeg 1) 0) (Int32.toNatClampNeg 2) 0) (Int32.toNatClampNeg 3) 0) (Int32.toNatClampNeg 4) 0))), ((ma 25), .inl (y 2, 8, .inl (fun _ => 0))), ((ma 28), .inl (y 2, 2, .inl (fun _ => 0))), ((ma 45), .inl (y 3, 8, .inr (.inl fa))), ((ma 46), .inl (y 3, 8, .inr (.inl fb)))] H := hP
              have hD : va_D A [(h0, .inr (11, mF ma (upd (upd (upd (upd (upd (upd (upd mi 1 0) 2 0) 3 0) 4 (-1)) 5 0) 6 (-1)) 29 0) mj)), ((ma 24), .inl (y 2, 10, .inl (upd (upd (upd (upd (upd (fun _ => 0) (Int32.toNatClampNeg 0) 0) (Int32.toNatClampNeg 1) 0) (Int32.toNatClampNeg 2) 0) (Int32.toNatClampNeg 3) 0) (Int32.toNatClampNeg 4) 0))), ((ma 25), .inl (y 2, 8, .inl (fun _ => 0))), ((ma 28), .inl (y 2, 2, .inl (fun _ => 0))), ((ma 45), .inl (y 3, 8, .inr (.inl fa))), ((ma 46), .inl (y 3, 8, .inr (.inl fb)))] := hD
              refine lv_aload_n hx hb dX12_program_58 rfl (lv_at hl 1 rfl) ?_
              refine lv_iconst (v := 0) hx hb dX12_program_59 (by decide) ?_
              refine va_put (D := D) (ci := 11) (v := .int 0) (ty := .int) (C := RX12) (T := TX12) (N := 85) hx hb hts inX12 tyX12 tyX12_ok nmX12 hown hK hP hD hS 0 rfl rfl 33 (by decide) fl249 (fun _ h9 => h9) rfl (by decide +kernel) rfl rfl (Nat.le_of_ble_eq_true rfl) dX12_program_60 (fun H locs hP hD hS => ?_)
              have hP : va_P D vwCl [(h0, .inr (11, mF ma (upd (upd (upd (upd (upd (upd (upd (upd mi 1 0) 2 0) 3 0) 4 (-1)) 5 0) 6 (-1)) 29 0) 33 0) mj)), ((ma 24), .inl (y 2, 10, .inl (upd (upd (upd (upd (upd (fun _ => 0) (Int32.toNatClampNeg 0) 0) (Int32.toNatClampNeg 1) 0) (Int32.toNatClampNeg 2) 0) (Int32.toNatClampNeg 3) 0) (Int32.toNatClampNeg 4) 0))), ((ma 25), .inl (y 2, 8, .inl (fun _ => 0))), ((ma 28), .inl (y 2, 2, .inl (fun _ => 0))), ((ma 45), .inl (y 3, 8, .inr (.inl fa))), ((ma 46), .inl (y 3, 8, .inr (.inl fb)))] H := hP
              have hD : va_D A [(h0, .inr (11, mF ma (upd (upd (upd (upd (upd (upd (upd (upd mi 1 0) 2 0) 3 0) 4 (-1)) 5 0) 6 (-1)) 29 0) 33 0) mj)), ((ma 24), .inl (y 2, 10, .inl (upd (upd (upd (upd (upd (fun _ => 0) (Int32.toNatClampNeg 0) 0) (Int32.toNatClampNeg 1) 0) (Int32.toNatClampNeg 2) 0) (Int32.toNatClampNeg 3) 0) (Int32.toNatClampNeg 4) 0))), ((ma 25), .inl (y 2, 8, .inl (fun _ => 0))), ((ma 28), .inl (y 2, 2, .inl (fun _ => 0))), ((ma 45), .inl (y 3, 8, .inr (.inl fa))), ((ma 46), .inl (y 3, 8, .inr (.inl fb)))] := hD
              refine lv_aload_n hx hb dX12_program_63 rfl (lv_at hl 1 rfl) ?_
              refine lv_iconst (v := 0) hx hb dX12_program_64 (by decide) ?_
              refine va_put (D := D) (ci := 11) (v := .int 0) (ty := .int) (C := RX12) (T := TX12) (N := 85) hx hb hts inX12 tyX12 tyX12_ok nmX12 hown hK hP hD hS 0 rfl rfl 39 (by decide) fl332 (fun _ h9 => h9) rfl (by decide +kernel) rfl rfl (Nat.le_of_ble_eq_true rfl) dX12_program_65 (fun H locs hP hD hS => ?_)
              have hP : va_P D vwCl [(h0, .inr (11, mF ma (upd (upd (upd (upd (upd (upd (upd (upd (upd mi 1 0) 2 0) 3 0) 4 (-1)) 5 0) 6 (-1)) 29 0) 33 0) 39 0) mj)), ((ma 24), .inl (y 2, 10, .inl (upd (upd (upd (upd (upd (fun _ => 0) (Int32.toNatClampNeg 0) 0) (Int32.toNatClampNeg 1) 0) (Int32.toNatClampNeg 2) 0) (Int32.toNatClampNeg 3) 0) (Int32.toNatClampNeg 4) 0))), ((ma 25), .inl (y 2, 8, .inl (fun _ => 0))), ((ma 28), .inl (y 2, 2, .inl (fun _ => 0))), ((ma 45), .inl (y 3, 8, .inr (.inl fa))), ((ma 46), .inl (y 3, 8, .inr (.inl fb)))] H := hP
              have hD : va_D A [(h0, .inr (11, mF ma (upd (upd (upd (upd (upd (upd (upd (upd (upd mi 1 0) 2 0) 3 0) 4 (-1)) 5 0) 6 (-1)) 29 0) 33 0) 39 0) mj)), ((ma 24), .inl (y 2, 10, .inl (upd (upd (upd (upd (upd (fun _ => 0) (Int32.toNatClampNeg 0) 0) (Int32.toNatClampNeg 1) 0) (Int32.toNatClampNeg 2) 0) (Int32.toNatClampNeg 3) 0) (Int32.toNatClampNeg 4) 0))), ((ma 25), .inl (y 2, 8, .inl (fun _ => 0))), ((ma 28), .inl (y 2, 2, .inl (fun _ => 0))), ((ma 45), .inl (y 3, 8, .inr (.inl fa))), ((ma 46), .inl (y 3, 8, .inr (.inl fb)))] := hD
              refine lv_aload_n hx hb dX12_program_68 rfl (lv_at hl 1 rfl) ?_
              refine lv_iconst (v := 0) hx hb dX12_program_69 (by decide) ?_
              refine va_put (D := D) (ci := 11) (v := .int 0) (ty := .int) (C := RX12) (T := TX12) (N := 85) hx hb hts inX12 tyX12 tyX12_ok nmX12 hown hK hP hD hS 0 rfl rfl 32 (by decide) fl260 (fun _ h9 => h9) rfl (by decide +kernel) rfl rfl (Nat.le_of_ble_eq_true rfl) dX12_program_70 (fun H locs hP hD hS => ?_)
              have hP : va_P D vwCl [(h0, .inr (11, mF ma (upd (upd (upd (upd (upd (upd (upd (upd (upd (upd mi 1 0) 2 0) 3 0) 4 (-1)) 5 0) 6 (-1)) 29 0) 32 0) 33 0) 39 0) mj)), ((ma 24), .inl (y 2, 10, .inl (upd (upd (upd (upd (upd (fun _ => 0) (Int32.toNatClampNeg 0) 0) (Int32.toNatClampNeg 1) 0) (Int32.toNatClampNeg 2) 0) (Int32.toNatClampNeg 3) 0) (Int32.toNatClampNeg 4) 0))), ((ma 25), .inl (y 2, 8, .inl (fun _ => 0))), ((ma 28), .inl (y 2, 2, .inl (fun _ => 0))), ((ma 45), .inl (y 3, 8, .inr (.inl fa))), ((ma 46), .inl (y 3, 8, .inr (.inl fb)))] H := hP
              have hD : va_D A [(h0, .inr (11, mF ma (upd (upd (upd (upd (upd (upd (upd (upd (upd (upd mi 1 0) 2 0) 3 0) 4 (-1)) 5 0) 6 (-1)) 29 0) 32 0) 33 0) 39 0) mj)), ((ma 24), .inl (y 2, 10, .inl (upd (upd (upd (upd (upd (fun _ => 0) (Int32.toNatClampNeg 0) 0) (Int32.toNatClampNeg 1) 0) (Int32.toNatClampNeg 2) 0) (Int32.toNatClampNeg 3) 0) (Int32.toNatClampNeg 4) 0))), ((ma 25), .inl (y 2, 8, .inl (fun _ => 0))), ((ma 28), .inl (y 2, 2, .inl (fun _ => 0))), ((ma 45), .inl (y 3, 8, .inr (.inl fa))), ((ma 46), .inl (y 3, 8, .inr (.inl fb)))] := hD
              refine lv_aload_n hx hb dX12_program_73 rfl (lv_at hl 1 rfl) ?_
              refine x_callv (w1 := fun (u : Unit) => [(h0, .inr (11, mF ma (upd (upd (upd (upd (upd (upd (upd (upd (upd (upd (upd (upd (upd (upd mi 1 0) 2 0) 3 0) 4 (-1)) 5 0) 6 (-1)) 29 0) 32 0) 33 0) 39 0) 2 0) 3 0) 5 0) 39 0) mj))]) (wr := [((ma 24), .inl (y 2, 10, .inl (upd (upd (upd (upd (upd (fun _ => 0) (Int32.toNatClampNeg 0) 0) (Int32.toNatClampNeg 1) 0) (Int32.toNatClampNeg 2) 0) (Int32.toNatClampNeg 3) 0) (Int32.toNatClampNeg 4) 0))), ((ma 25), .inl (y 2, 8, .inl (fun _ => 0))), ((ma 28), .inl (y 2, 2, .inl (fun _ => 0))), ((ma 45), .inl (y 3, 8, .inr (.inl fa))), ((ma 46), .inl (y 3, 8, .inr (.inl fb)))]) (ws' := fun (u : Unit) => [(h0, .inr (11, mF ma (upd (upd (upd (upd (upd (upd (upd (upd (upd (upd mi 1 0) 2 0) 3 0) 4 (-1)) 5 0) 6 (-1)) 29 0) 32 0) 33 0) 39 0) mj)), ((ma 24), .inl (y 2, 10, .inl (upd (upd (upd (upd (upd (fun _ => 0) (Int32.toNatClampNeg 0) 0) (Int32.toNatClampNeg 1) 0) (Int32.toNatClampNeg 2) 0) (Int32.toNatClampNeg 3) 0) (Int32.toNatClampNeg 4) 0))), ((ma 25), .inl (y 2, 8, .inl (fun _ => 0))), ((ma 28), .inl (y 2, 2, .inl (fun _ => 0))), ((ma 45), .inl (y 3, 8, .inr (.inl fa))), ((ma 46), .inl (y 3, 8, .inr (.inl fb)))]) (va_runV (As := []) (rest := []) ⟨hx, hb, hml, hown, hts⟩ (m_reads0 l D y H.size h0 ma (upd (upd (upd (upd (upd (upd (upd (upd (upd (upd mi 1 0) 2 0) 3 0) 4 (-1)) 5 0) 6 (-1)) 29 0) 32 0) 33 0) 39 0) mj) (cwV 0 hts g_m_program0_0 rfl rfl rfl (by decide +kernel) ⟨Nat.le_of_ble_eq_true rfl, Nat.le_of_ble_eq_true rfl⟩) (x_preV (q := (RX12, TX12, 85)) hK (x_subP hP [0] rfl) (x_subD hD [0] rfl (by decide)) (ci := 11) (q0 := 0) rfl rfl) rfl rfl hl.1 rfl (lv_room (Nat.le_of_ble_eq_true rfl)) dX12_program_74 ⟨Nat.le_of_ble_eq_true rfl, Nat.le_of_ble_eq_true rfl⟩) hP hD hS hA [0] [1, 2, 3, 4, 5] rfl rfl (by decide) (by decide) [5, 0, 1, 2, 3, 4] (fun _ => rfl) (by decide) (fun u H locs hw hP hD hS => ?_)
              try dsimp only at hw
              have hP : va_P D vwCl [(h0, .inr (11, mF ma (upd (upd (upd (upd (upd (upd (upd (upd (upd (upd mi 1 0) 2 0) 3 0) 4 (-1)) 5 0) 6 (-1)) 29 0) 32 0) 33 0) 39 0) mj)), ((ma 24), .inl (y 2, 10, .inl (upd (upd (upd (upd (upd (fun _ => 0) (Int32.toNatClampNeg 0) 0) (Int32.toNatClampNeg 1) 0) (Int32.toNatClampNeg 2) 0) (Int32.toNatClampNeg 3) 0) (Int32.toNatClampNeg 4) 0))), ((ma 25), .inl (y 2, 8, .inl (fun _ => 0))), ((ma 28), .inl (y 2, 2, .inl (fun _ => 0))), ((ma 45), .inl (y 3, 8, .inr (.inl fa))), ((ma 46), .inl (y 3, 8, .inr (.inl fb)))] H := hP
              have hD : va_D A [(h0, .inr (11, mF ma (upd (upd (upd (upd (upd (upd (upd (upd (upd (upd mi 1 0) 2 0) 3 0) 4 (-1)) 5 0) 6 (-1)) 29 0) 32 0) 33 0) 39 0) mj)), ((ma 24), .inl (y 2, 10, .inl (upd (upd (upd (upd (upd (fun _ => 0) (Int32.toNatClampNeg 0) 0) (Int32.toNatClampNeg 1) 0) (Int32.toNatClampNeg 2) 0) (Int32.toNatClampNeg 3) 0) (Int32.toNatClampNeg 4) 0))), ((ma 25), .inl (y 2, 8, .inl (fun _ => 0))), ((ma 28), .inl (y 2, 2, .inl (fun _ => 0))), ((ma 45), .inl (y 3, 8, .inr (.inl fa))), ((ma 46), .inl (y 3, 8, .inr (.inl fb)))] := hD
              refine lv_aload_n hx hb dX12_program_77 rfl (lv_at hl 1 rfl) ?_
              refine lv_aload_n hx hb dX12_program_78 rfl (lv_at hl 1 rfl) ?_
              refine va_get (D := D) (ci := 11) (v := .int 0) (C := RX12) (T := TX12) (N := 85) hx hb hts inX12 hown hK hP 0 rfl rfl 5 (by decide) fl191 (fun _ h9 => h9) rfl dX12_program_79 ?_
              refine va_put (D := D) (ci := 11) (v := .int 0) (ty := .int) (C := RX12) (T := TX12) (N := 85) hx hb hts inX12 tyX12 tyX12_ok nmX12 hown hK hP hD hS 0 rfl rfl 7 (by decide) fl362 (fun _ h9 => h9) rfl (by decide +kernel) rfl rfl (Nat.le_of_ble_eq_true rfl) dX12_program_82 (fun H locs hP hD hS => ?_)
              have hP : va_P D vwCl [(h0, .inr (11, mF ma (upd (upd (upd (upd (upd (upd (upd (upd (upd (upd (upd mi 1 0) 2 0) 3 0) 4 (-1)) 5 0) 6 (-1)) 7 0) 29 0) 32 0) 33 0) 39 0) mj)), ((ma 24), .inl (y 2, 10, .inl (upd (upd (upd (upd (upd (fun _ => 0) (Int32.toNatClampNeg 0) 0) (Int32.toNatClampNeg 1) 0) (Int32.toNatClampNeg 2) 0) (Int32.toNatClampNeg 3) 0) (Int32.toNatClampNeg 4) 0))), ((ma 25), .inl (y 2, 8, .inl (fun _ => 0))), ((ma 28), .inl (y 2, 2, .inl (fun _ => 0))), ((ma 45), .inl (y 3, 8, .inr (.inl fa))), ((ma 46), .inl (y 3, 8, .inr (.inl fb)))] H := hP
              have hD : va_D A [(h0, .inr (11, mF ma (upd (upd (upd (upd (upd (upd (upd (upd (upd (upd (upd mi 1 0) 2 0) 3 0) 4 (-1)) 5 0) 6 (-1)) 7 0) 29 0) 32 0) 33 0) 39 0) mj)), ((ma 24), .inl (y 2, 10, .inl (upd (upd (upd (upd (upd (fun _ => 0) (Int32.toNatClampNeg 0) 0) (Int32.toNatClampNeg 1) 0) (Int32.toNatClampNeg 2) 0) (Int32.toNatClampNeg 3) 0) (Int32.toNatClampNeg 4) 0))), ((ma 25), .inl (y 2, 8, .inl (fun _ => 0))), ((ma 28), .inl (y 2, 2, .inl (fun _ => 0))), ((ma 45), .inl (y 3, 8, .inr (.inl fa))), ((ma 46), .inl (y 3, 8, .inr (.inl fb)))] := hD
              refine lv_aload_n hx hb dX12_program_85 rfl (lv_at hl 1 rfl) ?_
              refine lv_aload_n hx hb dX12_program_86 rfl (lv_at hl 1 rfl) ?_
              refine va_get (D := D) (ci := 11) (v := .int (-1)) (C := RX12) (T := TX12) (N := 85) hx hb hts inX12 hown hK hP 0 rfl rfl 6 (by decide) fl194 (fun _ h9 => h9) rfl dX12_program_87 ?_
              refine va_put (D := D) (ci := 11) (v := .int (-1)) (ty := .int) (C := RX12) (T := TX12) (N := 85) hx hb hts inX12 tyX12 tyX12_ok nmX12 hown hK hP hD hS 0 rfl rfl 8 (by decide) fl13 (fun _ h9 => h9) rfl (by decide +kernel) rfl rfl (Nat.le_of_ble_eq_true rfl) dX12_program_90 (fun H locs hP hD hS => ?_)
              have hP : va_P D vwCl [(h0, .inr (11, mF ma (upd (upd (upd (upd (upd (upd (upd (upd (upd (upd (upd (upd mi 1 0) 2 0) 3 0) 4 (-1)) 5 0) 6 (-1)) 7 0) 8 (-1)) 29 0) 32 0) 33 0) 39 0) mj)), ((ma 24), .inl (y 2, 10, .inl (upd (upd (upd (upd (upd (fun _ => 0) (Int32.toNatClampNeg 0) 0) (Int32.toNatClampNeg 1) 0) (Int32.toNatClampNeg 2) 0) (Int32.toNatClampNeg 3) 0) (Int32.toNatClampNeg 4) 0))), ((ma 25), .inl (y 2, 8, .inl (fun _ => 0))), ((ma 28), .inl (y 2, 2, .inl (fun _ => 0))), ((ma 45), .inl (y 3, 8, .inr (.inl fa))), ((ma 46), .inl (y 3, 8, .inr (.inl fb)))] H := hP
              have hD : va_D A [(h0, .inr (11, mF ma (upd (upd (upd (upd (upd (upd (upd (upd (upd (upd (upd (upd mi 1 0) 2 0) 3 0) 4 (-1)) 5 0) 6 (-1)) 7 0) 8 (-1)) 29 0) 32 0) 33 0) 39 0) mj)), ((ma 24), .inl (y 2, 10, .inl (upd (upd (upd (upd (upd (fun _ => 0) (Int32.toNatClampNeg 0) 0) (Int32.toNatClampNeg 1) 0) (Int32.toNatClampNeg 2) 0) (Int32.toNatClampNeg 3) 0) (Int32.toNatClampNeg 4) 0))), ((ma 25), .inl (y 2, 8, .inl (fun _ => 0))), ((ma 28), .inl (y 2, 2, .inl (fun _ => 0))), ((ma 45), .inl (y 3, 8, .inr (.inl fa))), ((ma 46), .inl (y 3, 8, .inr (.inl fb)))] := hD
              refine lv_aload_n hx hb dX12_program_93 rfl (lv_at hl 1 rfl) ?_
              refine va_get (D := D) (ci := 11) (v := .int 0) (C := RX12) (T := TX12) (N := 85) hx hb hts inX12 hown hK hP 0 rfl rfl 5 (by decide) fl191 (fun _ h9 => h9) rfl dX12_program_94 ?_
              refine lv_if_eq (tgt := 102) hx hb dX12_program_97 (by decide) (fun c_7 => ?_) (fun c_7 => ?_)
              · refine lv_iconst (v := 0) hx hb dX12_program_102 (by decide) ?_
                refine lv_istore_n (lv' := [(1, .int 0), (0, .ref h0)]) hx hb dX12_program_103 rfl hl (by decide) rfl (fun ls hl => ?_)
                refine lv_iload_n hx hb dX12_program_104 rfl (lv_at hl 0 rfl) ?_
                refine lv_iconst (v := 5) hx hb dX12_program_105 (by decide) ?_
                refine lv_icmp_ge (tgt := 129) hx hb dX12_program_106 (by decide) (fun c_8 => ?_) (fun c_8 => ?_)
                · exact absurd c_8 (by decide)
                · refine lv_aload_n hx hb dX12_program_109 rfl (lv_at hl 1 rfl) ?_
                  refine va_get (D := D) (ci := 11) (v := .ref (ma 24)) (C := RX12) (T := TX12) (N := 85) hx hb hts inX12 hown hK hP 0 rfl rfl 24 (by decide) fl60 (fun _ h9 => h9) rfl dX12_program_110 ?_
                  refine lv_iconst (v := 5) hx hb dX12_program_113 (by decide) ?_
                  refine lv_iload_n hx hb dX12_program_114 rfl (lv_at hl 0 rfl) ?_
                  refine lv_iadd hx hb dX12_program_115 ?_
                  refine lv_topi (fun i_9 ei_9 => ?_)
                  obtain rfl : i_9 = 5 := ei_9.trans (by decide)
                  refine lv_aload_n hx hb dX12_program_116 rfl (lv_at hl 1 rfl) ?_
                  refine va_get (D := D) (ci := 11) (v := .ref (ma 24)) (C := RX12) (T := TX12) (N := 85) hx hb hts inX12 hown hK hP 0 rfl rfl 24 (by decide) fl60 (fun _ h9 => h9) rfl dX12_program_117 ?_
                  refine lv_iload_n hx hb dX12_program_120 rfl (lv_at hl 0 rfl) ?_
                  refine va_iald hx hb hK hP 1 2 rfl rfl (x_in (by decide) (by decide)) dX12_program_121 ?_
                  refine lv_topi (fun i_10 ei_10 => ?_)
                  obtain rfl : i_10 = 0 := ei_10.trans (by rfl)
                  refine va_iast hx hb hK hP hD hS 1 2 rfl rfl (x_in (by decide) (by decide)) dX12_program_122 (fun H locs hP hD hS => ?_)
                  have hP : va_P D vwCl [(h0, .inr (11, mF ma (upd (upd (upd (upd (upd (upd (upd (upd (upd (upd (upd (upd mi 1 0) 2 0) 3 0) 4 (-1)) 5 0) 6 (-1)) 7 0) 8 (-1)) 29 0) 32 0) 33 0) 39 0) mj)), ((ma 24), .inl (y 2, 10, .inl (upd (upd (upd (upd (upd (upd (fun _ => 0) (Int32.toNatClampNeg 0) 0) (Int32.toNatClampNeg 1) 0) (Int32.toNatClampNeg 2) 0) (Int32.toNatClampNeg 3) 0) (Int32.toNatClampNeg 4) 0) (Int32.toNatClampNeg 5) 0))), ((ma 25), .inl (y 2, 8, .inl (fun _ => 0))), ((ma 28), .inl (y 2, 2, .inl (fun _ => 0))), ((ma 45), .inl (y 3, 8, .inr (.inl fa))), ((ma 46), .inl (y 3, 8, .inr (.inl fb)))] H := hP
                  have hD : va_D A [(h0, .inr (11, mF ma (upd (upd (upd (upd (upd (upd (upd (upd (upd (upd (upd (upd mi 1 0) 2 0) 3 0) 4 (-1)) 5 0) 6 (-1)) 7 0) 8 (-1)) 29 0) 32 0) 33 0) 39 0) mj)), ((ma 24), .inl (y 2, 10, .inl (upd (upd (upd (upd (upd (upd (fun _ => 0) (Int32.toNatClampNeg 0) 0) (Int32.toNatClampNeg 1) 0) (Int32.toNatClampNeg 2) 0) (Int32.toNatClampNeg 3) 0) (Int32.toNatClampNeg 4) 0) (Int32.toNatClampNeg 5) 0))), ((ma 25), .inl (y 2, 8, .inl (fun _ => 0))), ((ma 28), .inl (y 2, 2, .inl (fun _ => 0))), ((ma 45), .inl (y 3, 8, .inr (.inl fa))), ((ma 46), .inl (y 3, 8, .inr (.inl fb)))] := hD
                  refine lv_iinc (v := 1) (lv' := [(1, .int 1), (0, .ref h0)]) hx hb dX12_program_123 hl (k := 0) rfl (by decide) (by decide) rfl (fun ls hl => ?_)
                  refine lv_goto (tgt := 104) hx hb dX12_program_126 (by decide) ?_
                  refine lv_iload_n hx hb dX12_program_104 rfl (lv_at hl 0 rfl) ?_
                  refine lv_iconst (v := 5) hx hb dX12_program_105 (by decide) ?_
                  refine lv_icmp_ge (tgt := 129) hx hb dX12_program_106 (by decide) (fun c_11 => ?_) (fun c_11 => ?_)
                  · exact absurd c_11 (by decide)
                  · refine lv_aload_n hx hb dX12_program_109 rfl (lv_at hl 1 rfl) ?_
                    refine va_get (D := D) (ci := 11) (v := .ref (ma 24)) (C := RX12) (T := TX12) (N := 85) hx hb hts inX12 hown hK hP 0 rfl rfl 24 (by decide) fl60 (fun _ h9 => h9) rfl dX12_program_110 ?_
                    refine lv_iconst (v := 5) hx hb dX12_program_113 (by decide) ?_
                    refine lv_iload_n hx hb dX12_program_114 rfl (lv_at hl 0 rfl) ?_
                    refine lv_iadd hx hb dX12_program_115 ?_
                    refine lv_topi (fun i_12 ei_12 => ?_)
                    obtain rfl : i_12 = 6 := ei_12.trans (by decide)
                    refine lv_aload_n hx hb dX12_program_116 rfl (lv_at hl 1 rfl) ?_
                    refine va_get (D := D) (ci := 11) (v := .ref (ma 24)) (C := RX12) (T := TX12) (N := 85) hx hb hts inX12 hown hK hP 0 rfl rfl 24 (by decide) fl60 (fun _ h9 => h9) rfl dX12_program_117 ?_
                    refine lv_iload_n hx hb dX12_program_120 rfl (lv_at hl 0 rfl) ?_
                    refine va_iald hx hb hK hP 1 2 rfl rfl (x_in (by decide) (by decide)) dX12_program_121 ?_
                    refine lv_topi (fun i_13 ei_13 => ?_)
                    obtain rfl : i_13 = 0 := ei_13.trans (by rfl)
                    refine va_iast hx hb hK hP hD hS 1 2 rfl rfl (x_in (by decide) (by decide)) dX12_program_122 (fun H locs hP hD hS => ?_)
                    have hP : va_P D vwCl [(h0, .inr (11, mF ma (upd (upd (upd (upd (upd (upd (upd (upd (upd (upd (upd (upd mi 1 0) 2 0) 3 0) 4 (-1)) 5 0) 6 (-1)) 7 0) 8 (-1)) 29 0) 32 0) 33 0) 39 0) mj)), ((ma 24), .inl (y 2, 10, .inl (upd (upd (upd (upd (upd (upd (upd (fun _ => 0) (Int32.toNatClampNeg 0) 0) (Int32.toNatClampNeg 1) 0) (Int32.toNatClampNeg 2) 0) (Int32.toNatClampNeg 3) 0) (Int32.toNatClampNeg 4) 0) (Int32.toNatClampNeg 5) 0) (Int32.toNatClampNeg 6) 0))), ((ma 25), .inl (y 2, 8, .inl (fun _ => 0))), ((ma 28), .inl (y 2, 2, .inl (fun _ => 0))), ((ma 45), .inl (y 3, 8, .inr (.inl fa))), ((ma 46), .inl (y 3, 8, .inr (.inl fb)))] H := hP
                    have hD : va_D A [(h0, .inr (11, mF ma (upd (upd (upd (upd (upd (upd (upd (upd (upd (upd (upd (upd mi 1 0) 2 0) 3 0) 4 (-1)) 5 0) 6 (-1)) 7 0) 8 (-1)) 29 0) 32 0) 33 0) 39 0) mj)), ((ma 24), .inl (y 2, 10, .inl (upd (upd (upd (upd (upd (upd (upd (fun _ => 0) (Int32.toNatClampNeg 0) 0) (Int32.toNatClampNeg 1) 0) (Int32.toNatClampNeg 2) 0) (Int32.toNatClampNeg 3) 0) (Int32.toNatClampNeg 4) 0) (Int32.toNatClampNeg 5) 0) (Int32.toNatClampNeg 6) 0))), ((ma 25), .inl (y 2, 8, .inl (fun _ => 0))), ((ma 28), .inl (y 2, 2, .inl (fun _ => 0))), ((ma 45), .inl (y 3, 8, .inr (.inl fa))), ((ma 46), .inl (y 3, 8, .inr (.inl fb)))] := hD
                    refine lv_iinc (v := 2) (lv' := [(1, .int 2), (0, .ref h0)]) hx hb dX12_program_123 hl (k := 0) rfl (by decide) (by decide) rfl (fun ls hl => ?_)
                    refine lv_goto (tgt := 104) hx hb dX12_program_126 (by decide) ?_
                    refine lv_iload_n hx hb dX12_program_104 rfl (lv_at hl 0 rfl) ?_
                    refine lv_iconst (v := 5) hx hb dX12_program_105 (by decide) ?_
                    refine lv_icmp_ge (tgt := 129) hx hb dX12_program_106 (by decide) (fun c_14 => ?_) (fun c_14 => ?_)
                    · exact absurd c_14 (by decide)
                    · refine lv_aload_n hx hb dX12_program_109 rfl (lv_at hl 1 rfl) ?_
                      refine va_get (D := D) (ci := 11) (v := .ref (ma 24)) (C := RX12) (T := TX12) (N := 85) hx hb hts inX12 hown hK hP 0 rfl rfl 24 (by decide) fl60 (fun _ h9 => h9) rfl dX12_program_110 ?_
                      refine lv_iconst (v := 5) hx hb dX12_program_113 (by decide) ?_
                      refine lv_iload_n hx hb dX12_program_114 rfl (lv_at hl 0 rfl) ?_
                      refine lv_iadd hx hb dX12_program_115 ?_
                      refine lv_topi (fun i_15 ei_15 => ?_)
                      obtain rfl : i_15 = 7 := ei_15.trans (by decide)
                      refine lv_aload_n hx hb dX12_program_116 rfl (lv_at hl 1 rfl) ?_
                      refine va_get (D := D) (ci := 11) (v := .ref (ma 24)) (C := RX12) (T := TX12) (N := 85) hx hb hts inX12 hown hK hP 0 rfl rfl 24 (by decide) fl60 (fun _ h9 => h9) rfl dX12_program_117 ?_
                      refine lv_iload_n hx hb dX12_program_120 rfl (lv_at hl 0 rfl) ?_
                      refine va_iald hx hb hK hP 1 2 rfl rfl (x_in (by decide) (by decide)) dX12_program_121 ?_
                      refine lv_topi (fun i_16 ei_16 => ?_)
                      obtain rfl : i_16 = 0 := ei_16.trans (by rfl)
                      refine va_iast hx hb hK hP hD hS 1 2 rfl rfl (x_in (by decide) (by decide)) dX12_program_122 (fun H locs hP hD hS => ?_)
                      have hP : va_P D vwCl [(h0, .inr (11, mF ma (upd (upd (upd (upd (upd (upd (upd (upd (upd (upd (upd (upd mi 1 0) 2 0) 3 0) 4 (-1)) 5 0) 6 (-1)) 7 0) 8 (-1)) 29 0) 32 0) 33 0) 39 0) mj)), ((ma 24), .inl (y 2, 10, .inl (upd (upd (upd (upd (upd (upd (upd (upd (fun _ => 0) (Int32.toNatClampNeg 0) 0) (Int32.toNatClampNeg 1) 0) (Int32.toNatClampNeg 2) 0) (Int32.toNatClampNeg 3) 0) (Int32.toNatClampNeg 4) 0) (Int32.toNatClampNeg 5) 0) (Int32.toNatClampNeg 6) 0) (Int32.toNatClampNeg 7) 0))), ((ma 25), .inl (y 2, 8, .inl (fun _ => 0))), ((ma 28), .inl (y 2, 2, .inl (fun _ => 0))), ((ma 45), .inl (y 3, 8, .inr (.inl fa))), ((ma 46), .inl (y 3, 8, .inr (.inl fb)))] H := hP
                      have hD : va_D A [(h0, .inr (11, mF ma (upd (upd (upd (upd (upd (upd (upd (upd (upd (upd (upd (upd mi 1 0) 2 0) 3 0) 4 (-1)) 5 0) 6 (-1)) 7 0) 8 (-1)) 29 0) 32 0) 33 0) 39 0) mj)), ((ma 24), .inl (y 2, 10, .inl (upd (upd (upd (upd (upd (upd (upd (upd (fun _ => 0) (Int32.toNatClampNeg 0) 0) (Int32.toNatClampNeg 1) 0) (Int32.toNatClampNeg 2) 0) (Int32.toNatClampNeg 3) 0) (Int32.toNatClampNeg 4) 0) (Int32.toNatClampNeg 5) 0) (Int32.toNatClampNeg 6) 0) (Int32.toNatClampNeg 7) 0))), ((ma 25), .inl (y 2, 8, .inl (fun _ => 0))), ((ma 28), .inl (y 2, 2, .inl (fun _ => 0))), ((ma 45), .inl (y 3, 8, .inr (.inl fa))), ((ma 46), .inl (y 3, 8, .inr (.inl fb)))] := hD
                      refine lv_iinc (v := 3) (lv' := [(1, .int 3), (0, .ref h0)]) hx hb dX12_program_123 hl (k := 0) rfl (by decide) (by decide) rfl (fun ls hl => ?_)
                      refine lv_goto (tgt := 104) hx hb dX12_program_126 (by decide) ?_
                      refine lv_iload_n hx hb dX12_program_104 rfl (lv_at hl 0 rfl) ?_
                      refine lv_iconst (v := 5) hx hb dX12_program_105 (by decide) ?_
                      refine lv_icmp_ge (tgt := 129) hx hb dX12_program_106 (by decide) (fun c_17 => ?_) (fun c_17 => ?_)
                      · exact absurd c_17 (by decide)
                      · refine lv_aload_n hx hb dX12_program_109 rfl (lv_at hl 1 rfl) ?_
                        refine va_get (D := D) (ci := 11) (v := .ref (ma 24)) (C := RX12) (T := TX12) (N := 85) hx hb hts inX12 hown hK hP 0 rfl rfl 24 (by decide) fl60 (fun _ h9 => h9) rfl dX12_program_110 ?_
                        refine lv_iconst (v := 5) hx hb dX12_program_113 (by decide) ?_
                        refine lv_iload_n hx hb dX12_program_114 rfl (lv_at hl 0 rfl) ?_
                        refine lv_iadd hx hb dX12_program_115 ?_
                        refine lv_topi (fun i_18 ei_18 => ?_)
                        obtain rfl : i_18 = 8 := ei_18.trans (by decide)
                        refine lv_aload_n hx hb dX12_program_116 rfl (lv_at hl 1 rfl) ?_
                        refine va_get (D := D) (ci := 11) (v := .ref (ma 24)) (C := RX12) (T := TX12) (N := 85) hx hb hts inX12 hown hK hP 0 rfl rfl 24 (by decide) fl60 (fun _ h9 => h9) rfl dX12_program_117 ?_
                        refine lv_iload_n hx hb dX12_program_120 rfl (lv_at hl 0 rfl) ?_
                        refine va_iald hx hb hK hP 1 2 rfl rfl (x_in (by decide) (by decide)) dX12_program_121 ?_
                        refine lv_topi (fun i_19 ei_19 => ?_)
                        obtain rfl : i_19 = 0 := ei_19.trans (by rfl)
                        refine va_iast hx hb hK hP hD hS 1 2 rfl rfl (x_in (by decide) (by decide)) dX12_program_122 (fun H locs hP hD hS => ?_)
                        have hP : va_P D vwCl [(h0, .inr (11, mF ma (upd (upd (upd (upd (upd (upd (upd (upd (upd (upd (upd (upd mi 1 0) 2 0) 3 0) 4 (-1)) 5 0) 6 (-1)) 7 0) 8 (-1)) 29 0) 32 0) 33 0) 39 0) mj)), ((ma 24), .inl (y 2, 10, .inl (upd (upd (upd (upd (upd (upd (upd (upd (upd (fun _ => 0) (Int32.toNatClampNeg 0) 0) (Int32.toNatClampNeg 1) 0) (Int32.toNatClampNeg 2) 0) (Int32.toNatClampNeg 3) 0) (Int32.toNatClampNeg 4) 0) (Int32.toNatClampNeg 5) 0) (Int32.toNatClampNeg 6) 0) (Int32.toNatClampNeg 7) 0) (Int32.toNatClampNeg 8) 0))), ((ma 25), .inl (y 2, 8, .inl (fun _ => 0))), ((ma 28), .inl (y 2, 2, .inl (fun _ => 0))), ((ma 45), .inl (y 3, 8, .inr (.inl fa))), ((ma 46), .inl (y 3, 8, .inr (.inl fb)))] H := hP
                        have hD : va_D A [(h0, .inr (11, mF ma (upd (upd (upd (upd (upd (upd (upd (upd (upd (upd (upd (upd mi 1 0) 2 0) 3 0) 4 (-1)) 5 0) 6 (-1)) 7 0) 8 (-1)) 29 0) 32 0) 33 0) 39 0) mj)), ((ma 24), .inl (y 2, 10, .inl (upd (upd (upd (upd (upd (upd (upd (upd (upd (fun _ => 0) (Int32.toNatClampNeg 0) 0) (Int32.toNatClampNeg 1) 0) (Int32.toNatClampNeg 2) 0) (Int32.toNatClampNeg 3) 0) (Int32.toNatClampNeg 4) 0) (Int32.toNatClampNeg 5) 0) (Int32.toNatClampNeg 6) 0) (Int32.toNatClampNeg 7) 0) (Int32.toNatClampNeg 8) 0))), ((ma 25), .inl (y 2, 8, .inl (fun _ => 0))), ((ma 28), .inl (y 2, 2, .inl (fun _ => 0))), ((ma 45), .inl (y 3, 8, .inr (.inl fa))), ((ma 46), .inl (y 3, 8, .inr (.inl fb)))] := hD
                        refine lv_iinc (v := 4) (lv' := [(1, .int 4), (0, .ref h0)]) hx hb dX12_program_123 hl (k := 0) rfl (by decide) (by decide) rfl (fun ls hl => ?_)
                        refine lv_goto (tgt := 104) hx hb dX12_program_126 (by decide) ?_
                        refine lv_iload_n hx hb dX12_program_104 rfl (lv_at hl 0 rfl) ?_
                        refine lv_iconst (v := 5) hx hb dX12_program_105 (by decide) ?_
                        refine lv_icmp_ge (tgt := 129) hx hb dX12_program_106 (by decide) (fun c_20 => ?_) (fun c_20 => ?_)
                        · exact absurd c_20 (by decide)
                        · refine lv_aload_n hx hb dX12_program_109 rfl (lv_at hl 1 rfl) ?_
                          refine va_get (D := D) (ci := 11) (v := .ref (ma 24)) (C := RX12) (T := TX12) (N := 85) hx hb hts inX12 hown hK hP 0 rfl rfl 24 (by decide) fl60 (fun _ h9 => h9) rfl dX12_program_110 ?_
                          refine lv_iconst (v := 5) hx hb dX12_program_113 (by decide) ?_
                          refine lv_iload_n hx hb dX12_program_114 rfl (lv_at hl 0 rfl) ?_
                          refine lv_iadd hx hb dX12_program_115 ?_
                          refine lv_topi (fun i_21 ei_21 => ?_)
                          obtain rfl : i_21 = 9 := ei_21.trans (by decide)
                          refine lv_aload_n hx hb dX12_program_116 rfl (lv_at hl 1 rfl) ?_
                          refine va_get (D := D) (ci := 11) (v := .ref (ma 24)) (C := RX12) (T := TX12) (N := 85) hx hb hts inX12 hown hK hP 0 rfl rfl 24 (by decide) fl60 (fun _ h9 => h9) rfl dX12_program_117 ?_
                          refine lv_iload_n hx hb dX12_program_120 rfl (lv_at hl 0 rfl) ?_
                          refine va_iald hx hb hK hP 1 2 rfl rfl (x_in (by decide) (by decide)) dX12_program_121 ?_
                          refine lv_topi (fun i_22 ei_22 => ?_)
                          obtain rfl : i_22 = 0 := ei_22.trans (by rfl)
                          refine va_iast hx hb hK hP hD hS 1 2 rfl rfl (x_in (by decide) (by decide)) dX12_program_122 (fun H locs hP hD hS => ?_)
                          have hP : va_P D vwCl [(h0, .inr (11, mF ma (upd (upd (upd (upd (upd (upd (upd (upd (upd (upd (upd (upd mi 1 0) 2 0) 3 0) 4 (-1)) 5 0) 6 (-1)) 7 0) 8 (-1)) 29 0) 32 0) 33 0) 39 0) mj)), ((ma 24), .inl (y 2, 10, .inl (upd (upd (upd (upd (upd (upd (upd (upd (upd (upd (fun _ => 0) (Int32.toNatClampNeg 0) 0) (Int32.toNatClampNeg 1) 0) (Int32.toNatClampNeg 2) 0) (Int32.toNatClampNeg 3) 0) (Int32.toNatClampNeg 4) 0) (Int32.toNatClampNeg 5) 0) (Int32.toNatClampNeg 6) 0) (Int32.toNatClampNeg 7) 0) (Int32.toNatClampNeg 8) 0) (Int32.toNatClampNeg 9) 0))), ((ma 25), .inl (y 2, 8, .inl (fun _ => 0))), ((ma 28), .inl (y 2, 2, .inl (fun _ => 0))), ((ma 45), .inl (y 3, 8, .inr (.inl fa))), ((ma 46), .inl (y 3, 8, .inr (.inl fb)))] H := hP
                          have hD : va_D A [(h0, .inr (11, mF ma (upd (upd (upd (upd (upd (upd (upd (upd (upd (upd (upd (upd mi 1 0) 2 0) 3 0) 4 (-1)) 5 0) 6 (-1)) 7 0) 8 (-1)) 29 0) 32 0) 33 0) 39 0) mj)), ((ma 24), .inl (y 2, 10, .inl (upd (upd (upd (upd (upd (upd (upd (upd (upd (upd (fun _ => 0) (Int32.toNatClampNeg 0) 0) (Int32.toNatClampNeg 1) 0) (Int32.toNatClampNeg 2) 0) (Int32.toNatClampNeg 3) 0) (Int32.toNatClampNeg 4) 0) (Int32.toNatClampNeg 5) 0) (Int32.toNatClampNeg 6) 0) (Int32.toNatClampNeg 7) 0) (Int32.toNatClampNeg 8) 0) (Int32.toNatClampNeg 9) 0))), ((ma 25), .inl (y 2, 8, .inl (fun _ => 0))), ((ma 28), .inl (y 2, 2, .inl (fun _ => 0))), ((ma 45), .inl (y 3, 8, .inr (.inl fa))), ((ma 46), .inl (y 3, 8, .inr (.inl fb)))] := hD
                          refine lv_iinc (v := 5) (lv' := [(1, .int 5), (0, .ref h0)]) hx hb dX12_program_123 hl (k := 0) rfl (by decide) (by decide) rfl (fun ls hl => ?_)
                          refine lv_goto (tgt := 104) hx hb dX12_program_126 (by decide) ?_
                          refine lv_iload_n hx hb dX12_program_104 rfl (lv_at hl 0 rfl) ?_
                          refine lv_iconst (v := 5) hx hb dX12_program_105 (by decide) ?_
                          refine lv_icmp_ge (tgt := 129) hx hb dX12_program_106 (by decide) (fun c_23 => ?_) (fun c_23 => ?_)
                          · refine lv_iconst (v := 0) hx hb dX12_program_129 (by decide) ?_
                            refine lv_istore_n (lv' := [(1, .int 0), (0, .ref h0)]) hx hb dX12_program_130 rfl hl (by decide) rfl (fun ls hl => ?_)
                            refine lv_iload_n hx hb dX12_program_131 rfl (lv_at hl 0 rfl) ?_
                            refine lv_iconst (v := 4) hx hb dX12_program_132 (by decide) ?_
                            refine lv_icmp_ge (tgt := 156) hx hb dX12_program_133 (by decide) (fun c_24 => ?_) (fun c_24 => ?_)
                            · exact absurd c_24 (by decide)
                            · refine lv_aload_n hx hb dX12_program_136 rfl (lv_at hl 1 rfl) ?_
                              refine va_get (D := D) (ci := 11) (v := .ref (ma 25)) (C := RX12) (T := TX12) (N := 85) hx hb hts inX12 hown hK hP 0 rfl rfl 25 (by decide) fl63 (fun _ h9 => h9) rfl dX12_program_137 ?_
                              refine lv_iconst (v := 4) hx hb dX12_program_140 (by decide) ?_
                              refine lv_iload_n hx hb dX12_program_141 rfl (lv_at hl 0 rfl) ?_
                              refine lv_iadd hx hb dX12_program_142 ?_
                              refine lv_topi (fun i_25 ei_25 => ?_)
                              obtain rfl : i_25 = 4 := ei_25.trans (by decide)
                              refine lv_aload_n hx hb dX12_program_143 rfl (lv_at hl 1 rfl) ?_
                              refine va_get (D := D) (ci := 11) (v := .ref (ma 25)) (C := RX12) (T := TX12) (N := 85) hx hb hts inX12 hown hK hP 0 rfl rfl 25 (by decide) fl63 (fun _ h9 => h9) rfl dX12_program_144 ?_
                              refine lv_iload_n hx hb dX12_program_147 rfl (lv_at hl 0 rfl) ?_
                              refine va_iald hx hb hK hP 2 2 rfl rfl (x_in (by decide) (by decide)) dX12_program_148 ?_
                              refine lv_topi (fun i_26 ei_26 => ?_)
                              obtain rfl : i_26 = 0 := ei_26.trans (by rfl)
                              refine va_iast hx hb hK hP hD hS 2 2 rfl rfl (x_in (by decide) (by decide)) dX12_program_149 (fun H locs hP hD hS => ?_)
                              have hP : va_P D vwCl [(h0, .inr (11, mF ma (upd (upd (upd (upd (upd (upd (upd (upd (upd (upd (upd (upd mi 1 0) 2 0) 3 0) 4 (-1)) 5 0) 6 (-1)) 7 0) 8 (-1)) 29 0) 32 0) 33 0) 39 0) mj)), ((ma 24), .inl (y 2, 10, .inl (upd (upd (upd (upd (upd (upd (upd (upd (upd (upd (fun _ => 0) (Int32.toNatClampNeg 0) 0) (Int32.toNatClampNeg 1) 0) (Int32.toNatClampNeg 2) 0) (Int32.toNatClampNeg 3) 0) (Int32.toNatClampNeg 4) 0) (Int32.toNatClampNeg 5) 0) (Int32.toNatClampNeg 6) 0) (Int32.toNatClampNeg 7) 0) (Int32.toNatClampNeg 8) 0) (Int32.toNatClampNeg 9) 0))), ((ma 25), .inl (y 2, 8, .inl (upd (fun _ => 0) (Int32.toNatClampNeg 4) 0))), ((ma 28), .inl (y 2, 2, .inl (fun _ => 0))), ((ma 45), .inl (y 3, 8, .inr (.inl fa))), ((ma 46), .inl (y 3, 8, .inr (.inl fb)))] H := hP
                              have hD : va_D A [(h0, .inr (11, mF ma (upd (upd (upd (upd (upd (upd (upd (upd (upd (upd (upd (upd mi 1 0) 2 0) 3 0) 4 (-1)) 5 0) 6 (-1)) 7 0) 8 (-1)) 29 0) 32 0) 33 0) 39 0) mj)), ((ma 24), .inl (y 2, 10, .inl (upd (upd (upd (upd (upd (upd (upd (upd (upd (upd (fun _ => 0) (Int32.toNatClampNeg 0) 0) (Int32.toNatClampNeg 1) 0) (Int32.toNatClampNeg 2) 0) (Int32.toNatClampNeg 3) 0) (Int32.toNatClampNeg 4) 0) (Int32.toNatClampNeg 5) 0) (Int32.toNatClampNeg 6) 0) (Int32.toNatClampNeg 7) 0) (Int32.toNatClampNeg 8) 0) (Int32.toNatClampNeg 9) 0))), ((ma 25), .inl (y 2, 8, .inl (upd (fun _ => 0) (Int32.toNatClampNeg 4) 0))), ((ma 28), .inl (y 2, 2, .inl (fun _ => 0))), ((ma 45), .inl (y 3, 8, .inr (.inl fa))), ((ma 46), .inl (y 3, 8, .inr (.inl fb)))] := hD
                              refine lv_iinc (v := 1) (lv' := [(1, .int 1), (0, .ref h0)]) hx hb dX12_program_150 hl (k := 0) rfl (by decide) (by decide) rfl (fun ls hl => ?_)
                              refine lv_goto (tgt := 131) hx hb dX12_program_153 (by decide) ?_
                              refine lv_iload_n hx hb dX12_program_131 rfl (lv_at hl 0 rfl) ?_
                              refine lv_iconst (v := 4) hx hb dX12_program_132 (by decide) ?_
                              refine lv_icmp_ge (tgt := 156) hx hb dX12_program_133 (by decide) (fun c_27 => ?_) (fun c_27 => ?_)
                              · exact absurd c_27 (by decide)
                              · refine lv_aload_n hx hb dX12_program_136 rfl (lv_at hl 1 rfl) ?_
                                refine va_get (D := D) (ci := 11) (v := .ref (ma 25)) (C := RX12) (T := TX12) (N := 85) hx hb hts inX12 hown hK hP 0 rfl rfl 25 (by decide) fl63 (fun _ h9 => h9) rfl dX12_program_137 ?_
                                refine lv_iconst (v := 4) hx hb dX12_program_140 (by decide) ?_
                                refine lv_iload_n hx hb dX12_program_141 rfl (lv_at hl 0 rfl) ?_
                                refine lv_iadd hx hb dX12_program_142 ?_
                                refine lv_topi (fun i_28 ei_28 => ?_)
                                obtain rfl : i_28 = 5 := ei_28.trans (by decide)
                                refine lv_aload_n hx hb dX12_program_143 rfl (lv_at hl 1 rfl) ?_
                                refine va_get (D := D) (ci := 11) (v := .ref (ma 25)) (C := RX12) (T := TX12) (N := 85) hx hb hts inX12 hown hK hP 0 rfl rfl 25 (by decide) fl63 (fun _ h9 => h9) rfl dX12_program_144 ?_
                                refine lv_iload_n hx hb dX12_program_147 rfl (lv_at hl 0 rfl) ?_
                                refine va_iald hx hb hK hP 2 2 rfl rfl (x_in (by decide) (by decide)) dX12_program_148 ?_
                                refine lv_topi (fun i_29 ei_29 => ?_)
                                obtain rfl : i_29 = 0 := ei_29.trans (by rfl)
                                refine va_iast hx hb hK hP hD hS 2 2 rfl rfl (x_in (by decide) (by decide)) dX12_program_149 (fun H locs hP hD hS => ?_)
                                have hP : va_P D vwCl [(h0, .inr (11, mF ma (upd (upd (upd (upd (upd (upd (upd (upd (upd (upd (upd (upd mi 1 0) 2 0) 3 0) 4 (-1)) 5 0) 6 (-1)) 7 0) 8 (-1)) 29 0) 32 0) 33 0) 39 0) mj)), ((ma 24), .inl (y 2, 10, .inl (upd (upd (upd (upd (upd (upd (upd (upd (upd (upd (fun _ => 0) (Int32.toNatClampNeg 0) 0) (Int32.toNatClampNeg 1) 0) (Int32.toNatClampNeg 2) 0) (Int32.toNatClampNeg 3) 0) (Int32.toNatClampNeg 4) 0) (Int32.toNatClampNeg 5) 0) (Int32.toNatClampNeg 6) 0) (Int32.toNatClampNeg 7) 0) (Int32.toNatClampNeg 8) 0) (Int32.toNatClampNeg 9) 0))), ((ma 25), .inl (y 2, 8, .inl (upd (upd (fun _ => 0) (Int32.toNatClampNeg 4) 0) (Int32.toNatClampNeg 5) 0))), ((ma 28), .inl (y 2, 2, .inl (fun _ => 0))), ((ma 45), .inl (y 3, 8, .inr (.inl fa))), ((ma 46), .inl (y 3, 8, .inr (.inl fb)))] H := hP
                                have hD : va_D A [(h0, .inr (11, mF ma (upd (upd (upd (upd (upd (upd (upd (upd (upd (upd (upd (upd mi 1 0) 2 0) 3 0) 4 (-1)) 5 0) 6 (-1)) 7 0) 8 (-1)) 29 0) 32 0) 33 0) 39 0) mj)), ((ma 24), .inl (y 2, 10, .inl (upd (upd (upd (upd (upd (upd (upd (upd (upd (upd (fun _ => 0) (Int32.toNatClampNeg 0) 0) (Int32.toNatClampNeg 1) 0) (Int32.toNatClampNeg 2) 0) (Int32.toNatClampNeg 3) 0) (Int32.toNatClampNeg 4) 0) (Int32.toNatClampNeg 5) 0) (Int32.toNatClampNeg 6) 0) (Int32.toNatClampNeg 7) 0) (Int32.toNatClampNeg 8) 0) (Int32.toNatClampNeg 9) 0))), ((ma 25), .inl (y 2, 8, .inl (upd (upd (fun _ => 0) (Int32.toNatClampNeg 4) 0) (Int32.toNatClampNeg 5) 0))), ((ma 28), .inl (y 2, 2, .inl (fun _ => 0))), ((ma 45), .inl (y 3, 8, .inr (.inl fa))), ((ma 46), .inl (y 3, 8, .inr (.inl fb)))] := hD
                                refine lv_iinc (v := 2) (lv' := [(1, .int 2), (0, .ref h0)]) hx hb dX12_program_150 hl (k := 0) rfl (by decide) (by decide) rfl (fun ls hl => ?_)
                                refine lv_goto (tgt := 131) hx hb dX12_program_153 (by decide) ?_
                                refine lv_iload_n hx hb dX12_program_131 rfl (lv_at hl 0 rfl) ?_
                                refine lv_iconst (v := 4) hx hb dX12_program_132 (by decide) ?_
                                refine lv_icmp_ge (tgt := 156) hx hb dX12_program_133 (by decide) (fun c_30 => ?_) (fun c_30 => ?_)
                                · exact absurd c_30 (by decide)
                                · refine lv_aload_n hx hb dX12_program_136 rfl (lv_at hl 1 rfl) ?_
                                  refine va_get (D := D) (ci := 11) (v := .ref (ma 25)) (C := RX12) (T := TX12) (N := 85) hx hb hts inX12 hown hK hP 0 rfl rfl 25 (by decide) fl63 (fun _ h9 => h9) rfl dX12_program_137 ?_
                                  refine lv_iconst (v := 4) hx hb dX12_program_140 (by decide) ?_
                                  refine lv_iload_n hx hb dX12_program_141 rfl (lv_at hl 0 rfl) ?_
                                  refine lv_iadd hx hb dX12_program_142 ?_
                                  refine lv_topi (fun i_31 ei_31 => ?_)
                                  obtain rfl : i_31 = 6 := ei_31.trans (by decide)
                                  refine lv_aload_n hx hb dX12_program_143 rfl (lv_at hl 1 rfl) ?_
                                  refine va_get (D := D) (ci := 11) (v := .ref (ma 25)) (C := RX12) (T := TX12) (N := 85) hx hb hts inX12 hown hK hP 0 rfl rfl 25 (by decide) fl63 (fun _ h9 => h9) rfl dX12_program_144 ?_
                                  refine lv_iload_n hx hb dX12_program_147 rfl (lv_at hl 0 rfl) ?_
                                  refine va_iald hx hb hK hP 2 2 rfl rfl (x_in (by decide) (by decide)) dX12_program_148 ?_
                                  refine lv_topi (fun i_32 ei_32 => ?_)
                                  obtain rfl : i_32 = 0 := ei_32.trans (by rfl)
                                  refine va_iast hx hb hK hP hD hS 2 2 rfl rfl (x_in (by decide) (by decide)) dX12_program_149 (fun H locs hP hD hS => ?_)
                                  have hP : va_P D vwCl [(h0, .inr (11, mF ma (upd (upd (upd (upd (upd (upd (upd (upd (upd (upd (upd (upd mi 1 0) 2 0) 3 0) 4 (-1)) 5 0) 6 (-1)) 7 0) 8 (-1)) 29 0) 32 0) 33 0) 39 0) mj)), ((ma 24), .inl (y 2, 10, .inl (upd (upd (upd (upd (upd (upd (upd (upd (upd (upd (fun _ => 0) (Int32.toNatClampNeg 0) 0) (Int32.toNatClampNeg 1) 0) (Int32.toNatClampNeg 2) 0) (Int32.toNatClampNeg 3) 0) (Int32.toNatClampNeg 4) 0) (Int32.toNatClampNeg 5) 0) (Int32.toNatClampNeg 6) 0) (Int32.toNatClampNeg 7) 0) (Int32.toNatClampNeg 8) 0) (Int32.toNatClampNeg 9) 0))), ((ma 25), .inl (y 2, 8, .inl (upd (upd (upd (fun _ => 0) (Int32.toNatClampNeg 4) 0) (Int32.toNatClampNeg 5) 0) (Int32.toNatClampNeg 6) 0))), ((ma 28), .inl (y 2, 2, .inl (fun _ => 0))), ((ma 45), .inl (y 3, 8, .inr (.inl fa))), ((ma 46), .inl (y 3, 8, .inr (.inl fb)))] H := hP
                                  have hD : va_D A [(h0, .inr (11, mF ma (upd (upd (upd (upd (upd (upd (upd (upd (upd (upd (upd (upd mi 1 0) 2 0) 3 0) 4 (-1)) 5 0) 6 (-1)) 7 0) 8 (-1)) 29 0) 32 0) 33 0) 39 0) mj)), ((ma 24), .inl (y 2, 10, .inl (upd (upd (upd (upd (upd (upd (upd (upd (upd (upd (fun _ => 0) (Int32.toNatClampNeg 0) 0) (Int32.toNatClampNeg 1) 0) (Int32.toNatClampNeg 2) 0) (Int32.toNatClampNeg 3) 0) (Int32.toNatClampNeg 4) 0) (Int32.toNatClampNeg 5) 0) (Int32.toNatClampNeg 6) 0) (Int32.toNatClampNeg 7) 0) (Int32.toNatClampNeg 8) 0) (Int32.toNatClampNeg 9) 0))), ((ma 25), .inl (y 2, 8, .inl (upd (upd (upd (fun _ => 0) (Int32.toNatClampNeg 4) 0) (Int32.toNatClampNeg 5) 0) (Int32.toNatClampNeg 6) 0))), ((ma 28), .inl (y 2, 2, .inl (fun _ => 0))), ((ma 45), .inl (y 3, 8, .inr (.inl fa))), ((ma 46), .inl (y 3, 8, .inr (.inl fb)))] := hD
                                  refine lv_iinc (v := 3) (lv' := [(1, .int 3), (0, .ref h0)]) hx hb dX12_program_150 hl (k := 0) rfl (by decide) (by decide) rfl (fun ls hl => ?_)
                                  refine lv_goto (tgt := 131) hx hb dX12_program_153 (by decide) ?_
                                  refine lv_iload_n hx hb dX12_program_131 rfl (lv_at hl 0 rfl) ?_
                                  refine lv_iconst (v := 4) hx hb dX12_program_132 (by decide) ?_
                                  refine lv_icmp_ge (tgt := 156) hx hb dX12_program_133 (by decide) (fun c_33 => ?_) (fun c_33 => ?_)
                                  · exact absurd c_33 (by decide)
                                  · refine lv_aload_n hx hb dX12_program_136 rfl (lv_at hl 1 rfl) ?_
                                    refine va_get (D := D) (ci := 11) (v := .ref (ma 25)) (C := RX12) (T := TX12) (N := 85) hx hb hts inX12 hown hK hP 0 rfl rfl 25 (by decide) fl63 (fun _ h9 => h9) rfl dX12_program_137 ?_
                                    refine lv_iconst (v := 4) hx hb dX12_program_140 (by decide) ?_
                                    refine lv_iload_n hx hb dX12_program_141 rfl (lv_at hl 0 rfl) ?_
                                    refine lv_iadd hx hb dX12_program_142 ?_
                                    refine lv_topi (fun i_34 ei_34 => ?_)
                                    obtain rfl : i_34 = 7 := ei_34.trans (by decide)
                                    refine lv_aload_n hx hb dX12_program_143 rfl (lv_at hl 1 rfl) ?_
                                    refine va_get (D := D) (ci := 11) (v := .ref (ma 25)) (C := RX12) (T := TX12) (N := 85) hx hb hts inX12 hown hK hP 0 rfl rfl 25 (by decide) fl63 (fun _ h9 => h9) rfl dX12_program_144 ?_
                                    refine lv_iload_n hx hb dX12_program_147 rfl (lv_at hl 0 rfl) ?_
                                    refine va_iald hx hb hK hP 2 2 rfl rfl (x_in (by decide) (by decide)) dX12_program_148 ?_
                                    refine lv_topi (fun i_35 ei_35 => ?_)
                                    obtain rfl : i_35 = 0 := ei_35.trans (by rfl)
                                    refine va_iast hx hb hK hP hD hS 2 2 rfl rfl (x_in (by decide) (by decide)) dX12_program_149 (fun H locs hP hD hS => ?_)
                                    have hP : va_P D vwCl [(h0, .inr (11, mF ma (upd (upd (upd (upd (upd (upd (upd (upd (upd (upd (upd (upd mi 1 0) 2 0) 3 0) 4 (-1)) 5 0) 6 (-1)) 7 0) 8 (-1)) 29 0) 32 0) 33 0) 39 0) mj)), ((ma 24), .inl (y 2, 10, .inl (upd (upd (upd (upd (upd (upd (upd (upd (upd (upd (fun _ => 0) (Int32.toNatClampNeg 0) 0) (Int32.toNatClampNeg 1) 0) (Int32.toNatClampNeg 2) 0) (Int32.toNatClampNeg 3) 0) (Int32.toNatClampNeg 4) 0) (Int32.toNatClampNeg 5) 0) (Int32.toNatClampNeg 6) 0) (Int32.toNatClampNeg 7) 0) (Int32.toNatClampNeg 8) 0) (Int32.toNatClampNeg 9) 0))), ((ma 25), .inl (y 2, 8, .inl (upd (upd (upd (upd (fun _ => 0) (Int32.toNatClampNeg 4) 0) (Int32.toNatClampNeg 5) 0) (Int32.toNatClampNeg 6) 0) (Int32.toNatClampNeg 7) 0))), ((ma 28), .inl (y 2, 2, .inl (fun _ => 0))), ((ma 45), .inl (y 3, 8, .inr (.inl fa))), ((ma 46), .inl (y 3, 8, .inr (.inl fb)))] H := hP
                                    have hD : va_D A [(h0, .inr (11, mF ma (upd (upd (upd (upd (upd (upd (upd (upd (upd (upd (upd (upd mi 1 0) 2 0) 3 0) 4 (-1)) 5 0) 6 (-1)) 7 0) 8 (-1)) 29 0) 32 0) 33 0) 39 0) mj)), ((ma 24), .inl (y 2, 10, .inl (upd (upd (upd (upd (upd (upd (upd (upd (upd (upd (fun _ => 0) (Int32.toNatClampNeg 0) 0) (Int32.toNatClampNeg 1) 0) (Int32.toNatClampNeg 2) 0) (Int32.toNatClampNeg 3) 0) (Int32.toNatClampNeg 4) 0) (Int32.toNatClampNeg 5) 0) (Int32.toNatClampNeg 6) 0) (Int32.toNatClampNeg 7) 0) (Int32.toNatClampNeg 8) 0) (Int32.toNatClampNeg 9) 0))), ((ma 25), .inl (y 2, 8, .inl (upd (upd (upd (upd (fun _ => 0) (Int32.toNatClampNeg 4) 0) (Int32.toNatClampNeg 5) 0) (Int32.toNatClampNeg 6) 0) (Int32.toNatClampNeg 7) 0))), ((ma 28), .inl (y 2, 2, .inl (fun _ => 0))), ((ma 45), .inl (y 3, 8, .inr (.inl fa))), ((ma 46), .inl (y 3, 8, .inr (.inl fb)))] := hD
                                    refine lv_iinc (v := 4) (lv' := [(1, .int 4), (0, .ref h0)]) hx hb dX12_program_150 hl (k := 0) rfl (by decide) (by decide) rfl (fun ls hl => ?_)
                                    refine lv_goto (tgt := 131) hx hb dX12_program_153 (by decide) ?_
                                    refine lv_iload_n hx hb dX12_program_131 rfl (lv_at hl 0 rfl) ?_
                                    refine lv_iconst (v := 4) hx hb dX12_program_132 (by decide) ?_
                                    refine lv_icmp_ge (tgt := 156) hx hb dX12_program_133 (by decide) (fun c_36 => ?_) (fun c_36 => ?_)
                                    · refine lv_iconst (v := 0) hx hb dX12_program_156 (by decide) ?_
                                      refine lv_istore_n (lv' := [(1, .int 0), (0, .ref h0)]) hx hb dX12_program_157 rfl hl (by decide) rfl (fun ls hl => ?_)
                                      refine lv_iload_n hx hb dX12_program_158 rfl (lv_at hl 0 rfl) ?_
                                      refine lv_aload_n hx hb dX12_program_159 rfl (lv_at hl 1 rfl) ?_
                                      refine va_get (D := D) (ci := 11) (v := .ref (ma 24)) (C := RX12) (T := TX12) (N := 85) hx hb hts inX12 hown hK hP 0 rfl rfl 24 (by decide) fl60 (fun _ h9 => h9) rfl dX12_program_160 ?_
                                      refine lv_iconst (v := 4) hx hb dX12_program_163 (by decide) ?_
                                      refine va_iald hx hb hK hP 1 2 rfl rfl (x_in (by decide) (by decide)) dX12_program_164 ?_
                                      refine lv_topi (fun i_37 ei_37 => ?_)
                                      obtain rfl : i_37 = 0 := ei_37.trans (by rfl)
                                      refine lv_icmp_ge (tgt := 190) hx hb dX12_program_165 (by decide) (fun c_38 => ?_) (fun c_38 => ?_)
                                      · refine lv_iconst (v := 0) hx hb dX12_program_190 (by decide) ?_
                                        refine lv_istore_n (lv' := [(1, .int 0), (0, .ref h0)]) hx hb dX12_program_191 rfl hl (by decide) rfl (fun ls hl => ?_)
                                        refine lv_iload_n hx hb dX12_program_192 rfl (lv_at hl 0 rfl) ?_
                                        refine lv_aload_n hx hb dX12_program_193 rfl (lv_at hl 1 rfl) ?_
                                        refine va_get (D := D) (ci := 11) (v := .int 0) (C := RX12) (T := TX12) (N := 85) hx hb hts inX12 hown hK hP 0 rfl rfl 29 (by decide) fl246 (fun _ h9 => h9) rfl dX12_program_194 ?_
                                        refine lv_icmp_ge (tgt := 222) hx hb dX12_program_197 (by decide) (fun c_39 => ?_) (fun c_39 => ?_)
                                        · refine lv_aload_n hx hb dX12_program_222 rfl (lv_at hl 1 rfl) ?_
                                          refine va_get (D := D) (ci := 11) (v := .ref (ma 28)) (C := RX12) (T := TX12) (N := 85) hx hb hts inX12 hown hK hP 0 rfl rfl 28 (by decide) fl72 (fun _ h9 => h9) rfl dX12_program_223 ?_
                                          refine lv_iconst (v := 1) hx hb dX12_program_226 (by decide) ?_
                                          refine lv_aload_n hx hb dX12_program_227 rfl (lv_at hl 1 rfl) ?_
                                          refine va_get (D := D) (ci := 11) (v := .int 0) (C := RX12) (T := TX12) (N := 85) hx hb hts inX12 hown hK hP 0 rfl rfl 29 (by decide) fl246 (fun _ h9 => h9) rfl dX12_program_228 ?_
                                          refine va_iast hx hb hK hP hD hS 3 2 rfl rfl (x_in (by decide) (by decide)) dX12_program_231 (fun H locs hP hD hS => ?_)
                                          have hP : va_P D vwCl [(h0, .inr (11, mF ma (upd (upd (upd (upd (upd (upd (upd (upd (upd (upd (upd (upd mi 1 0) 2 0) 3 0) 4 (-1)) 5 0) 6 (-1)) 7 0) 8 (-1)) 29 0) 32 0) 33 0) 39 0) mj)), ((ma 24), .inl (y 2, 10, .inl (upd (upd (upd (upd (upd (upd (upd (upd (upd (upd (fun _ => 0) (Int32.toNatClampNeg 0) 0) (Int32.toNatClampNeg 1) 0) (Int32.toNatClampNeg 2) 0) (Int32.toNatClampNeg 3) 0) (Int32.toNatClampNeg 4) 0) (Int32.toNatClampNeg 5) 0) (Int32.toNatClampNeg 6) 0) (Int32.toNatClampNeg 7) 0) (Int32.toNatClampNeg 8) 0) (Int32.toNatClampNeg 9) 0))), ((ma 25), .inl (y 2, 8, .inl (upd (upd (upd (upd (fun _ => 0) (Int32.toNatClampNeg 4) 0) (Int32.toNatClampNeg 5) 0) (Int32.toNatClampNeg 6) 0) (Int32.toNatClampNeg 7) 0))), ((ma 28), .inl (y 2, 2, .inl (upd (fun _ => 0) (Int32.toNatClampNeg 1) 0))), ((ma 45), .inl (y 3, 8, .inr (.inl fa))), ((ma 46), .inl (y 3, 8, .inr (.inl fb)))] H := hP
                                          have hD : va_D A [(h0, .inr (11, mF ma (upd (upd (upd (upd (upd (upd (upd (upd (upd (upd (upd (upd mi 1 0) 2 0) 3 0) 4 (-1)) 5 0) 6 (-1)) 7 0) 8 (-1)) 29 0) 32 0) 33 0) 39 0) mj)), ((ma 24), .inl (y 2, 10, .inl (upd (upd (upd (upd (upd (upd (upd (upd (upd (upd (fun _ => 0) (Int32.toNatClampNeg 0) 0) (Int32.toNatClampNeg 1) 0) (Int32.toNatClampNeg 2) 0) (Int32.toNatClampNeg 3) 0) (Int32.toNatClampNeg 4) 0) (Int32.toNatClampNeg 5) 0) (Int32.toNatClampNeg 6) 0) (Int32.toNatClampNeg 7) 0) (Int32.toNatClampNeg 8) 0) (Int32.toNatClampNeg 9) 0))), ((ma 25), .inl (y 2, 8, .inl (upd (upd (upd (upd (fun _ => 0) (Int32.toNatClampNeg 4) 0) (Int32.toNatClampNeg 5) 0) (Int32.toNatClampNeg 6) 0) (Int32.toNatClampNeg 7) 0))), ((ma 28), .inl (y 2, 2, .inl (upd (fun _ => 0) (Int32.toNatClampNeg 1) 0))), ((ma 45), .inl (y 3, 8, .inr (.inl fa))), ((ma 46), .inl (y 3, 8, .inr (.inl fb)))] := hD
                                          refine lv_iconst (v := 0) hx hb dX12_program_232 (by decide) ?_
                                          refine lv_istore_n (lv' := [(1, .int 0), (0, .ref h0)]) hx hb dX12_program_233 rfl hl (by decide) rfl (fun ls hl => ?_)
                                          refine lv_iload_n hx hb dX12_program_234 rfl (lv_at hl 0 rfl) ?_
                                          refine lv_bipush (v := 8) hx hb dX12_program_235 (by decide) ?_
                                          refine lv_icmp_ge (tgt := 260) hx hb dX12_program_237 (by decide) (fun c_40 => ?_) (fun c_40 => ?_)
                                          · exact absurd c_40 (by decide)
                                          · refine lv_aload_n hx hb dX12_program_240 rfl (lv_at hl 1 rfl) ?_
                                            refine va_get (D := D) (ci := 11) (v := .ref (ma 45)) (C := RX12) (T := TX12) (N := 85) hx hb hts inX12 hown hK hP 0 rfl rfl 45 (by decide) fl97 (fun _ h9 => h9) rfl dX12_program_241 ?_
                                            refine lv_iload_n hx hb dX12_program_244 rfl (lv_at hl 0 rfl) ?_
                                            refine lv_lconst (v := 0) hx hb dX12_program_245 (by decide) ?_
                                            refine va_last hx hb hK hP hD hS 4 3 rfl rfl (x_in (by decide) (by decide)) dX12_program_246 (fun H locs hP hD hS => ?_)
                                            have hP : va_P D vwCl [(h0, .inr (11, mF ma (upd (upd (upd (upd (upd (upd (upd (upd (upd (upd (upd (upd mi 1 0) 2 0) 3 0) 4 (-1)) 5 0) 6 (-1)) 7 0) 8 (-1)) 29 0) 32 0) 33 0) 39 0) mj)), ((ma 24), .inl (y 2, 10, .inl (upd (upd (upd (upd (upd (upd (upd (upd (upd (upd (fun _ => 0) (Int32.toNatClampNeg 0) 0) (Int32.toNatClampNeg 1) 0) (Int32.toNatClampNeg 2) 0) (Int32.toNatClampNeg 3) 0) (Int32.toNatClampNeg 4) 0) (Int32.toNatClampNeg 5) 0) (Int32.toNatClampNeg 6) 0) (Int32.toNatClampNeg 7) 0) (Int32.toNatClampNeg 8) 0) (Int32.toNatClampNeg 9) 0))), ((ma 25), .inl (y 2, 8, .inl (upd (upd (upd (upd (fun _ => 0) (Int32.toNatClampNeg 4) 0) (Int32.toNatClampNeg 5) 0) (Int32.toNatClampNeg 6) 0) (Int32.toNatClampNeg 7) 0))), ((ma 28), .inl (y 2, 2, .inl (upd (fun _ => 0) (Int32.toNatClampNeg 1) 0))), ((ma 45), .inl (y 3, 8, .inr (.inl (vp_updL fa (Int32.toNatClampNeg 0) 0)))), ((ma 46), .inl (y 3, 8, .inr (.inl fb)))] H := hP
                                            have hD : va_D A [(h0, .inr (11, mF ma (upd (upd (upd (upd (upd (upd (upd (upd (upd (upd (upd (upd mi 1 0) 2 0) 3 0) 4 (-1)) 5 0) 6 (-1)) 7 0) 8 (-1)) 29 0) 32 0) 33 0) 39 0) mj)), ((ma 24), .inl (y 2, 10, .inl (upd (upd (upd (upd (upd (upd (upd (upd (upd (upd (fun _ => 0) (Int32.toNatClampNeg 0) 0) (Int32.toNatClampNeg 1) 0) (Int32.toNatClampNeg 2) 0) (Int32.toNatClampNeg 3) 0) (Int32.toNatClampNeg 4) 0) (Int32.toNatClampNeg 5) 0) (Int32.toNatClampNeg 6) 0) (Int32.toNatClampNeg 7) 0) (Int32.toNatClampNeg 8) 0) (Int32.toNatClampNeg 9) 0))), ((ma 25), .inl (y 2, 8, .inl (upd (upd (upd (upd (fun _ => 0) (Int32.toNatClampNeg 4) 0) (Int32.toNatClampNeg 5) 0) (Int32.toNatClampNeg 6) 0) (Int32.toNatClampNeg 7) 0))), ((ma 28), .inl (y 2, 2, .inl (upd (fun _ => 0) (Int32.toNatClampNeg 1) 0))), ((ma 45), .inl (y 3, 8, .inr (.inl (vp_updL fa (Int32.toNatClampNeg 0) 0)))), ((ma 46), .inl (y 3, 8, .inr (.inl fb)))] := hD
                                            refine lv_aload_n hx hb dX12_program_247 rfl (lv_at hl 1 rfl) ?_
                                            refine va_get (D := D) (ci := 11) (v := .ref (ma 46)) (C := RX12) (T := TX12) (N := 85) hx hb hts inX12 hown hK hP 0 rfl rfl 46 (by decide) fl100 (fun _ h9 => h9) rfl dX12_program_248 ?_
                                            refine lv_iload_n hx hb dX12_program_251 rfl (lv_at hl 0 rfl) ?_
                                            refine lv_lconst (v := 1) hx hb dX12_program_252 (by decide) ?_
                                            refine va_last hx hb hK hP hD hS 5 3 rfl rfl (x_in (by decide) (by decide)) dX12_program_253 (fun H locs hP hD hS => ?_)
                                            have hP : va_P D vwCl [(h0, .inr (11, mF ma (upd (upd (upd (upd (upd (upd (upd (upd (upd (upd (upd (upd mi 1 0) 2 0) 3 0) 4 (-1)) 5 0) 6 (-1)) 7 0) 8 (-1)) 29 0) 32 0) 33 0) 39 0) mj)), ((ma 24), .inl (y 2, 10, .inl (upd (upd (upd (upd (upd (upd (upd (upd (upd (upd (fun _ => 0) (Int32.toNatClampNeg 0) 0) (Int32.toNatClampNeg 1) 0) (Int32.toNatClampNeg 2) 0) (Int32.toNatClampNeg 3) 0) (Int32.toNatClampNeg 4) 0) (Int32.toNatClampNeg 5) 0) (Int32.toNatClampNeg 6) 0) (Int32.toNatClampNeg 7) 0) (Int32.toNatClampNeg 8) 0) (Int32.toNatClampNeg 9) 0))), ((ma 25), .inl (y 2, 8, .inl (upd (upd (upd (upd (fun _ => 0) (Int32.toNatClampNeg 4) 0) (Int32.toNatClampNeg 5) 0) (Int32.toNatClampNeg 6) 0) (Int32.toNatClampNeg 7) 0))), ((ma 28), .inl (y 2, 2, .inl (upd (fun _ => 0) (Int32.toNatClampNeg 1) 0))), ((ma 45), .inl (y 3, 8, .inr (.inl (vp_updL fa (Int32.toNatClampNeg 0) 0)))), ((ma 46), .inl (y 3, 8, .inr (.inl (vp_updL fb (Int32.toNatClampNeg 0) 1))))] H := hP
                                            have hD : va_D A [(h0, .inr (11, mF ma (upd (upd (upd (upd (upd (upd (upd (upd (upd (upd (upd (upd mi 1 0) 2 0) 3 0) 4 (-1)) 5 0) 6 (-1)) 7 0) 8 (-1)) 29 0) 32 0) 33 0) 39 0) mj)), ((ma 24), .inl (y 2, 10, .inl (upd (upd (upd (upd (upd (upd (upd (upd (upd (upd (fun _ => 0) (Int32.toNatClampNeg 0) 0) (Int32.toNatClampNeg 1) 0) (Int32.toNatClampNeg 2) 0) (Int32.toNatClampNeg 3) 0) (Int32.toNatClampNeg 4) 0) (Int32.toNatClampNeg 5) 0) (Int32.toNatClampNeg 6) 0) (Int32.toNatClampNeg 7) 0) (Int32.toNatClampNeg 8) 0) (Int32.toNatClampNeg 9) 0))), ((ma 25), .inl (y 2, 8, .inl (upd (upd (upd (upd (fun _ => 0) (Int32.toNatClampNeg 4) 0) (Int32.toNatClampNeg 5) 0) (Int32.toNatClampNeg 6) 0) (Int32.toNatClampNeg 7) 0))), ((ma 28), .inl (y 2, 2, .inl (upd (fun _ => 0) (Int32.toNatClampNeg 1) 0))), ((ma 45), .inl (y 3, 8, .inr (.inl (vp_updL fa (Int32.toNatClampNeg 0) 0)))), ((ma 46), .inl (y 3, 8, .inr (.inl (vp_updL fb (Int32.toNatClampNeg 0) 1))))] := hD
                                            refine lv_iinc (v := 1) (lv' := [(1, .int 1), (0, .ref h0)]) hx hb dX12_program_254 hl (k := 0) rfl (by decide) (by decide) rfl (fun ls hl => ?_)
                                            refine lv_goto (tgt := 234) hx hb dX12_program_257 (by decide) ?_
                                            refine lv_iload_n hx hb dX12_program_234 rfl (lv_at hl 0 rfl) ?_
                                            refine lv_bipush (v := 8) hx hb dX12_program_235 (by decide) ?_
                                            refine lv_icmp_ge (tgt := 260) hx hb dX12_program_237 (by decide) (fun c_41 => ?_) (fun c_41 => ?_)
                                            · exact absurd c_41 (by decide)
                                            · refine lv_aload_n hx hb dX12_program_240 rfl (lv_at hl 1 rfl) ?_
                                              refine va_get (D := D) (ci := 11) (v := .ref (ma 45)) (C := RX12) (T := TX12) (N := 85) hx hb hts inX12 hown hK hP 0 rfl rfl 45 (by decide) fl97 (fun _ h9 => h9) rfl dX12_program_241 ?_
                                              refine lv_iload_n hx hb dX12_program_244 rfl (lv_at hl 0 rfl) ?_
                                              refine lv_lconst (v := 0) hx hb dX12_program_245 (by decide) ?_
                                              refine va_last hx hb hK hP hD hS 4 3 rfl rfl (x_in (by decide) (by decide)) dX12_program_246 (fun H locs hP hD hS => ?_)
                                              have hP : va_P D vwCl [(h0, .inr (11, mF ma (upd (upd (upd (upd (upd (upd (upd (upd (upd (upd (upd (upd mi 1 0) 2 0) 3 0) 4 (-1)) 5 0) 6 (-1)) 7 0) 8 (-1)) 29 0) 32 0) 33 0) 39 0) mj)), ((ma 24), .inl (y 2, 10, .inl (upd (upd (upd (upd (upd (upd (upd (upd (upd (upd (fun _ => 0) (Int32.toNatClampNeg 0) 0) (Int32.toNatClampNeg 1) 0) (Int32.toNatClampNeg 2) 0) (Int32.toNatClampNeg 3) 0) (Int32.toNatClampNeg 4) 0) (Int32.toNatClampNeg 5) 0) (Int32.toNatClampNeg 6) 0) (Int32.toNatClampNeg 7) 0) (Int32.toNatClampNeg 8) 0) (Int32.toNatClampNeg 9) 0))), ((ma 25), .inl (y 2, 8, .inl (upd (upd (upd (upd (fun _ => 0) (Int32.toNatClampNeg 4) 0) (Int32.toNatClampNeg 5) 0) (Int32.toNatClampNeg 6) 0) (Int32.toNatClampNeg 7) 0))), ((ma 28), .inl (y 2, 2, .inl (upd (fun _ => 0) (Int32.toNatClampNeg 1) 0))), ((ma 45), .inl (y 3, 8, .inr (.inl (vp_updL (vp_updL fa (Int32.toNatClampNeg 0) 0) (Int32.toNatClampNeg 1) 0)))), ((ma 46), .inl (y 3, 8, .inr (.inl (vp_updL fb (Int32.toNatClampNeg 0) 1))))] H := hP
                                              have hD : va_D A [(h0, .inr (11, mF ma (upd (upd (upd (upd (upd (upd (upd (upd (upd (upd (upd (upd mi 1 0) 2 0) 3 0) 4 (-1)) 5 0) 6 (-1)) 7 0) 8 (-1)) 29 0) 32 0) 33 0) 39 0) mj)), ((ma 24), .inl (y 2, 10, .inl (upd (upd (upd (upd (upd (upd (upd (upd (upd (upd (fun _ => 0) (Int32.toNatClampNeg 0) 0) (Int32.toNatClampNeg 1) 0) (Int32.toNatClampNeg 2) 0) (Int32.toNatClampNeg 3) 0) (Int32.toNatClampNeg 4) 0) (Int32.toNatClampNeg 5) 0) (Int32.toNatClampNeg 6) 0) (Int32.toNatClampNeg 7) 0) (Int32.toNatClampNeg 8) 0) (Int32.toNatClampNeg 9) 0))), ((ma 25), .inl (y 2, 8, .inl (upd (upd (upd (upd (fun _ => 0) (Int32.toNatClampNeg 4) 0) (Int32.toNatClampNeg 5) 0) (Int32.toNatClampNeg 6) 0) (Int32.toNatClampNeg 7) 0))), ((ma 28), .inl (y 2, 2, .inl (upd (fun _ => 0) (Int32.toNatClampNeg 1) 0))), ((ma 45), .inl (y 3, 8, .inr (.inl (vp_updL (vp_updL fa (Int32.toNatClampNeg 0) 0) (Int32.toNatClampNeg 1) 0)))), ((ma 46), .inl (y 3, 8, .inr (.inl (vp_updL fb (Int32.toNatClampNeg 0) 1))))] := hD
                                              refine lv_aload_n hx hb dX12_program_247 rfl (lv_at hl 1 rfl) ?_
                                              refine va_get (D := D) (ci := 11) (v := .ref (ma 46)) (C := RX12) (T := TX12) (N := 85) hx hb hts inX12 hown hK hP 0 rfl rfl 46 (by decide) fl100 (fun _ h9 => h9) rfl dX12_program_248 ?_
                                              refine lv_iload_n hx hb dX12_program_251 rfl (lv_at hl 0 rfl) ?_
                                              refine lv_lconst (v := 1) hx hb dX12_program_252 (by decide) ?_
                                              refine va_last hx hb hK hP hD hS 5 3 rfl rfl (x_in (by decide) (by decide)) dX12_program_253 (fun H locs hP hD hS => ?_)
                                              have hP : va_P D vwCl [(h0, .inr (11, mF ma (upd (upd (upd (upd (upd (upd (upd (upd (upd (upd (upd (upd mi 1 0) 2 0) 3 0) 4 (-1)) 5 0) 6 (-1)) 7 0) 8 (-1)) 29 0) 32 0) 33 0) 39 0) mj)), ((ma 24), .inl (y 2, 10, .inl (upd (upd (upd (upd (upd (upd (upd (upd (upd (upd (fun _ => 0) (Int32.toNatClampNeg 0) 0) (Int32.toNatClampNeg 1) 0) (Int32.toNatClampNeg 2) 0) (Int32.toNatClampNeg 3) 0) (Int32.toNatClampNeg 4) 0) (Int32.toNatClampNeg 5) 0) (Int32.toNatClampNeg 6) 0) (Int32.toNatClampNeg 7) 0) (Int32.toNatClampNeg 8) 0) (Int32.toNatClampNeg 9) 0))), ((ma 25), .inl (y 2, 8, .inl (upd (upd (upd (upd (fun _ => 0) (Int32.toNatClampNeg 4) 0) (Int32.toNatClampNeg 5) 0) (Int32.toNatClampNeg 6) 0) (Int32.toNatClampNeg 7) 0))), ((ma 28), .inl (y 2, 2, .inl (upd (fun _ => 0) (Int32.toNatClampNeg 1) 0))), ((ma 45), .inl (y 3, 8, .inr (.inl (vp_updL (vp_updL fa (Int32.toNatClampNeg 0) 0) (Int32.toNatClampNeg 1) 0)))), ((ma 46), .inl (y 3, 8, .inr (.inl (vp_updL (vp_updL fb (Int32.toNatClampNeg 0) 1) (Int32.toNatClampNeg 1) 1))))] H := hP
                                              have hD : va_D A [(h0, .inr (11, mF ma (upd (upd (upd (upd (upd (upd (upd (upd (upd (upd (upd (upd mi 1 0) 2 0) 3 0) 4 (-1)) 5 0) 6 (-1)) 7 0) 8 (-1)) 29 0) 32 0) 33 0) 39 0) mj)), ((ma 24), .inl (y 2, 10, .inl (upd (upd (upd (upd (upd (upd (upd (upd (upd (upd (fun _ => 0) (Int32.toNatClampNeg 0) 0) (Int32.toNatClampNeg 1) 0) (Int32.toNatClampNeg 2) 0) (Int32.toNatClampNeg 3) 0) (Int32.toNatClampNeg 4) 0) (Int32.toNatClampNeg 5) 0) (Int32.toNatClampNeg 6) 0) (Int32.toNatClampNeg 7) 0) (Int32.toNatClampNeg 8) 0) (Int32.toNatClampNeg 9) 0))), ((ma 25), .inl (y 2, 8, .inl (upd (upd (upd (upd (fun _ => 0) (Int32.toNatClampNeg 4) 0) (Int32.toNatClampNeg 5) 0) (Int32.toNatClampNeg 6) 0) (Int32.toNatClampNeg 7) 0))), ((ma 28), .inl (y 2, 2, .inl (upd (fun _ => 0) (Int32.toNatClampNeg 1) 0))), ((ma 45), .inl (y 3, 8, .inr (.inl (vp_updL (vp_updL fa (Int32.toNatClampNeg 0) 0) (Int32.toNatClampNeg 1) 0)))), ((ma 46), .inl (y 3, 8, .inr (.inl (vp_updL (vp_updL fb (Int32.toNatClampNeg 0) 1) (Int32.toNatClampNeg 1) 1))))] := hD
                                              refine lv_iinc (v := 2) (lv' := [(1, .int 2), (0, .ref h0)]) hx hb dX12_program_254 hl (k := 0) rfl (by decide) (by decide) rfl (fun ls hl => ?_)
                                              refine lv_goto (tgt := 234) hx hb dX12_program_257 (by decide) ?_
                                              refine lv_iload_n hx hb dX12_program_234 rfl (lv_at hl 0 rfl) ?_
                                              refine lv_bipush (v := 8) hx hb dX12_program_235 (by decide) ?_
                                              refine lv_icmp_ge (tgt := 260) hx hb dX12_program_237 (by decide) (fun c_42 => ?_) (fun c_42 => ?_)
                                              · exact absurd c_42 (by decide)
                                              · refine lv_aload_n hx hb dX12_program_240 rfl (lv_at hl 1 rfl) ?_
                                                refine va_get (D := D) (ci := 11) (v := .ref (ma 45)) (C := RX12) (T := TX12) (N := 85) hx hb hts inX12 hown hK hP 0 rfl rfl 45 (by decide) fl97 (fun _ h9 => h9) rfl dX12_program_241 ?_
                                                refine lv_iload_n hx hb dX12_program_244 rfl (lv_at hl 0 rfl) ?_
                                                refine lv_lconst (v := 0) hx hb dX12_program_245 (by decide) ?_
                                                refine va_last hx hb hK hP hD hS 4 3 rfl rfl (x_in (by decide) (by decide)) dX12_program_246 (fun H locs hP hD hS => ?_)
                                                have hP : va_P D vwCl [(h0, .inr (11, mF ma (upd (upd (upd (upd (upd (upd (upd (upd (upd (upd (upd (upd mi 1 0) 2 0) 3 0) 4 (-1)) 5 0) 6 (-1)) 7 0) 8 (-1)) 29 0) 32 0) 33 0) 39 0) mj)), ((ma 24), .inl (y 2, 10, .inl (upd (upd (upd (upd (upd (upd (upd (upd (upd (upd (fun _ => 0) (Int32.toNatClampNeg 0) 0) (Int32.toNatClampNeg 1) 0) (Int32.toNatClampNeg 2) 0) (Int32.toNatClampNeg 3) 0) (Int32.toNatClampNeg 4) 0) (Int32.toNatClampNeg 5) 0) (Int32.toNatClampNeg 6) 0) (Int32.toNatClampNeg 7) 0) (Int32.toNatClampNeg 8) 0) (Int32.toNatClampNeg 9) 0))), ((ma 25), .inl (y 2, 8, .inl (upd (upd (upd (upd (fun _ => 0) (Int32.toNatClampNeg 4) 0) (Int32.toNatClampNeg 5) 0) (Int32.toNatClampNeg 6) 0) (Int32.toNatClampNeg 7) 0))), ((ma 28), .inl (y 2, 2, .inl (upd (fun _ => 0) (Int32.toNatClampNeg 1) 0))), ((ma 45), .inl (y 3, 8, .inr (.inl (vp_updL (vp_updL (vp_updL fa (Int32.toNatClampNeg 0) 0) (Int32.toNatClampNeg 1) 0) (Int32.toNatClampNeg 2) 0)))), ((ma 46), .inl (y 3, 8, .inr (.inl (vp_updL (vp_updL fb (Int32.toNatClampNeg 0) 1) (Int32.toNatClampNeg 1) 1))))] H := hP
                                                have hD : va_D A [(h0, .inr (11, mF ma (upd (upd (upd (upd (upd (upd (upd (upd (upd (upd (upd (upd mi 1 0) 2 0) 3 0) 4 (-1)) 5 0) 6 (-1)) 7 0) 8 (-1)) 29 0) 32 0) 33 0) 39 0) mj)), ((ma 24), .inl (y 2, 10, .inl (upd (upd (upd (upd (upd (upd (upd (upd (upd (upd (fun _ => 0) (Int32.toNatClampNeg 0) 0) (Int32.toNatClampNeg 1) 0) (Int32.toNatClampNeg 2) 0) (Int32.toNatClampNeg 3) 0) (Int32.toNatClampNeg 4) 0) (Int32.toNatClampNeg 5) 0) (Int32.toNatClampNeg 6) 0) (Int32.toNatClampNeg 7) 0) (Int32.toNatClampNeg 8) 0) (Int32.toNatClampNeg 9) 0))), ((ma 25), .inl (y 2, 8, .inl (upd (upd (upd (upd (fun _ => 0) (Int32.toNatClampNeg 4) 0) (Int32.toNatClampNeg 5) 0) (Int32.toNatClampNeg 6) 0) (Int32.toNatClampNeg 7) 0))), ((ma 28), .inl (y 2, 2, .inl (upd (fun _ => 0) (Int32.toNatClampNeg 1) 0))), ((ma 45), .inl (y 3, 8, .inr (.inl (vp_updL (vp_updL (vp_updL fa (Int32.toNatClampNeg 0) 0) (Int32.toNatClampNeg 1) 0) (Int32.toNatClampNeg 2) 0)))), ((ma 46), .inl (y 3, 8, .inr (.inl (vp_updL (vp_updL fb (Int32.toNatClampNeg 0) 1) (Int32.toNatClampNeg 1) 1))))] := hD
                                                refine lv_aload_n hx hb dX12_program_247 rfl (lv_at hl 1 rfl) ?_
                                                refine va_get (D := D) (ci := 11) (v := .ref (ma 46)) (C := RX12) (T := TX12) (N := 85) hx hb hts inX12 hown hK hP 0 rfl rfl 46 (by decide) fl100 (fun _ h9 => h9) rfl dX12_program_248 ?_
                                                refine lv_iload_n hx hb dX12_program_251 rfl (lv_at hl 0 rfl) ?_
                                                refine lv_lconst (v := 1) hx hb dX12_program_252 (by decide) ?_
                                                refine va_last hx hb hK hP hD hS 5 3 rfl rfl (x_in (by decide) (by decide)) dX12_program_253 (fun H locs hP hD hS => ?_)
                                                have hP : va_P D vwCl [(h0, .inr (11, mF ma (upd (upd (upd (upd (upd (upd (upd (upd (upd (upd (upd (upd mi 1 0) 2 0) 3 0) 4 (-1)) 5 0) 6 (-1)) 7 0) 8 (-1)) 29 0) 32 0) 33 0) 39 0) mj)), ((ma 24), .inl (y 2, 10, .inl (upd (upd (upd (upd (upd (upd (upd (upd (upd (upd (fun _ => 0) (Int32.toNatClampNeg 0) 0) (Int32.toNatClampNeg 1) 0) (Int32.toNatClampNeg 2) 0) (Int32.toNatClampNeg 3) 0) (Int32.toNatClampNeg 4) 0) (Int32.toNatClampNeg 5) 0) (Int32.toNatClampNeg 6) 0) (Int32.toNatClampNeg 7) 0) (Int32.toNatClampNeg 8) 0) (Int32.toNatClampNeg 9) 0))), ((ma 25), .inl (y 2, 8, .inl (upd (upd (upd (upd (fun _ => 0) (Int32.toNatClampNeg 4) 0) (Int32.toNatClampNeg 5) 0) (Int32.toNatClampNeg 6) 0) (Int32.toNatClampNeg 7) 0))), ((ma 28), .inl (y 2, 2, .inl (upd (fun _ => 0) (Int32.toNatClampNeg 1) 0))), ((ma 45), .inl (y 3, 8, .inr (.inl (vp_updL (vp_updL (vp_updL fa (Int32.toNatClampNeg 0) 0) (Int32.toNatClampNeg 1) 0) (Int32.toNatClampNeg 2) 0)))), ((ma 46), .inl (y 3, 8, .inr (.inl (vp_updL (vp_updL (vp_updL fb (Int32.toNatClampNeg 0) 1) (Int32.toNatClampNeg 1) 1) (Int32.toNatClampNeg 2) 1))))] H := hP
                                                have hD : va_D A [(h0, .inr (11, mF ma (upd (upd (upd (upd (upd (upd (upd (upd (upd (upd (upd (upd mi 1 0) 2 0) 3 0) 4 (-1)) 5 0) 6 (-1)) 7 0) 8 (-1)) 29 0) 32 0) 33 0) 39 0) mj)), ((ma 24), .inl (y 2, 10, .inl (upd (upd (upd (upd (upd (upd (upd (upd (upd (upd (fun _ => 0) (Int32.toNatClampNeg 0) 0) (Int32.toNatClampNeg 1) 0) (Int32.toNatClampNeg 2) 0) (Int32.toNatClampNeg 3) 0) (Int32.toNatClampNeg 4) 0) (Int32.toNatClampNeg 5) 0) (Int32.toNatClampNeg 6) 0) (Int32.toNatClampNeg 7) 0) (Int32.toNatClampNeg 8) 0) (Int32.toNatClampNeg 9) 0))), ((ma 25), .inl (y 2, 8, .inl (upd (upd (upd (upd (fun _ => 0) (Int32.toNatClampNeg 4) 0) (Int32.toNatClampNeg 5) 0) (Int32.toNatClampNeg 6) 0) (Int32.toNatClampNeg 7) 0))), ((ma 28), .inl (y 2, 2, .inl (upd (fun _ => 0) (Int32.toNatClampNeg 1) 0))), ((ma 45), .inl (y 3, 8, .inr (.inl (vp_updL (vp_updL (vp_updL fa (Int32.toNatClampNeg 0) 0) (Int32.toNatClampNeg 1) 0) (Int32.toNatClampNeg 2) 0)))), ((ma 46), .inl (y 3, 8, .inr (.inl (vp_updL (vp_updL (vp_updL fb (Int32.toNatClampNeg 0) 1) (Int32.toNatClampNeg 1) 1) (Int32.toNatClampNeg 2) 1))))] := hD
                                                refine lv_iinc (v := 3) (lv' := [(1, .int 3), (0, .ref h0)]) hx hb dX12_program_254 hl (k := 0) rfl (by decide) (by decide) rfl (fun ls hl => ?_)
                                                refine lv_goto (tgt := 234) hx hb dX12_program_257 (by decide) ?_
                                                refine lv_iload_n hx hb dX12_program_234 rfl (lv_at hl 0 rfl) ?_
                                                refine lv_bipush (v := 8) hx hb dX12_program_235 (by decide) ?_
                                                refine lv_icmp_ge (tgt := 260) hx hb dX12_program_237 (by decide) (fun c_43 => ?_) (fun c_43 => ?_)
                                                · exact absurd c_43 (by decide)
                                                · refine lv_aload_n hx hb dX12_program_240 rfl (lv_at hl 1 rfl) ?_
                                                  refine va_get (D := D) (ci := 11) (v := .ref (ma 45)) (C := RX12) (T := TX12) (N := 85) hx hb hts inX12 hown hK hP 0 rfl rfl 45 (by decide) fl97 (fun _ h9 => h9) rfl dX12_program_241 ?_
                                                  refine lv_iload_n hx hb dX12_program_244 rfl (lv_at hl 0 rfl) ?_
                                                  refine lv_lconst (v := 0) hx hb dX12_program_245 (by decide) ?_
                                                  refine va_last hx hb hK hP hD hS 4 3 rfl rfl (x_in (by decide) (by decide)) dX12_program_246 (fun H locs hP hD hS => ?_)
                                                  have hP : va_P D vwCl [(h0, .inr (11, mF ma (upd (upd (upd (upd (upd (upd (upd (upd (upd (upd (upd (upd mi 1 0) 2 0) 3 0) 4 (-1)) 5 0) 6 (-1)) 7 0) 8 (-1)) 29 0) 32 0) 33 0) 39 0) mj)), ((ma 24), .inl (y 2, 10, .inl (upd (upd (upd (upd (upd (upd (upd (upd (upd (upd (fun _ => 0) (Int32.toNatClampNeg 0) 0) (Int32.toNatClampNeg 1) 0) (Int32.toNatClampNeg 2) 0) (Int32.toNatClampNeg 3) 0) (Int32.toNatClampNeg 4) 0) (Int32.toNatClampNeg 5) 0) (Int32.toNatClampNeg 6) 0) (Int32.toNatClampNeg 7) 0) (Int32.toNatClampNeg 8) 0) (Int32.toNatClampNeg 9) 0))), ((ma 25), .inl (y 2, 8, .inl (upd (upd (upd (upd (fun _ => 0) (Int32.toNatClampNeg 4) 0) (Int32.toNatClampNeg 5) 0) (Int32.toNatClampNeg 6) 0) (Int32.toNatClampNeg 7) 0))), ((ma 28), .inl (y 2, 2, .inl (upd (fun _ => 0) (Int32.toNatClampNeg 1) 0))), ((ma 45), .inl (y 3, 8, .inr (.inl (vp_updL (vp_updL (vp_updL (vp_updL fa (Int32.toNatClampNeg 0) 0) (Int32.toNatClampNeg 1) 0) (Int32.toNatClampNeg 2) 0) (Int32.toNatClampNeg 3) 0)))), ((ma 46), .inl (y 3, 8, .inr (.inl (vp_updL (vp_updL (vp_updL fb (Int32.toNatClampNeg 0) 1) (Int32.toNatClampNeg 1) 1) (Int32.toNatClampNeg 2) 1))))] H := hP
                                                  have hD : va_D A [(h0, .inr (11, mF ma (upd (upd (upd (upd (upd (upd (upd (upd (upd (upd (upd (upd mi 1 0) 2 0) 3 0) 4 (-1)) 5 0) 6 (-1)) 7 0) 8 (-1)) 29 0) 32 0) 33 0) 39 0) mj)), ((ma 24), .inl (y 2, 10, .inl (upd (upd (upd (upd (upd (upd (upd (upd (upd (upd (fun _ => 0) (Int32.toNatClampNeg 0) 0) (Int32.toNatClampNeg 1) 0) (Int32.toNatClampNeg 2) 0) (Int32.toNatClampNeg 3) 0) (Int32.toNatClampNeg 4) 0) (Int32.toNatClampNeg 5) 0) (Int32.toNatClampNeg 6) 0) (Int32.toNatClampNeg 7) 0) (Int32.toNatClampNeg 8) 0) (Int32.toNatClampNeg 9) 0))), ((ma 25), .inl (y 2, 8, .inl (upd (upd (upd (upd (fun _ => 0) (Int32.toNatClampNeg 4) 0) (Int32.toNatClampNeg 5) 0) (Int32.toNatClampNeg 6) 0) (Int32.toNatClampNeg 7) 0))), ((ma 28), .inl (y 2, 2, .inl (upd (fun _ => 0) (Int32.toNatClampNeg 1) 0))), ((ma 45), .inl (y 3, 8, .inr (.inl (vp_updL (vp_updL (vp_updL (vp_updL fa (Int32.toNatClampNeg 0) 0) (Int32.toNatClampNeg 1) 0) (Int32.toNatClampNeg 2) 0) (Int32.toNatClampNeg 3) 0)))), ((ma 46), .inl (y 3, 8, .inr (.inl (vp_updL (vp_updL (vp_updL fb (Int32.toNatClampNeg 0) 1) (Int32.toNatClampNeg 1) 1) (Int32.toNatClampNeg 2) 1))))] := hD
                                                  refine lv_aload_n hx hb dX12_program_247 rfl (lv_at hl 1 rfl) ?_
                                                  refine va_get (D := D) (ci := 11) (v := .ref (ma 46)) (C := RX12) (T := TX12) (N := 85) hx hb hts inX12 hown hK hP 0 rfl rfl 46 (by decide) fl100 (fun _ h9 => h9) rfl dX12_program_248 ?_
                                                  refine lv_iload_n hx hb dX12_program_251 rfl (lv_at hl 0 rfl) ?_
                                                  refine lv_lconst (v := 1) hx hb dX12_program_252 (by decide) ?_
                                                  refine va_last hx hb hK hP hD hS 5 3 rfl rfl (x_in (by decide) (by decide)) dX12_program_253 (fun H locs hP hD hS => ?_)
                                                  have hP : va_P D vwCl [(h0, .inr (11, mF ma (upd (upd (upd (upd (upd (upd (upd (upd (upd (upd (upd (upd mi 1 0) 2 0) 3 0) 4 (-1)) 5 0) 6 (-1)) 7 0) 8 (-1)) 29 0) 32 0) 33 0) 39 0) mj)), ((ma 24), .inl (y 2, 10, .inl (upd (upd (upd (upd (upd (upd (upd (upd (upd (upd (fun _ => 0) (Int32.toNatClampNeg 0) 0) (Int32.toNatClampNeg 1) 0) (Int32.toNatClampNeg 2) 0) (Int32.toNatClampNeg 3) 0) (Int32.toNatClampNeg 4) 0) (Int32.toNatClampNeg 5) 0) (Int32.toNatClampNeg 6) 0) (Int32.toNatClampNeg 7) 0) (Int32.toNatClampNeg 8) 0) (Int32.toNatClampNeg 9) 0))), ((ma 25), .inl (y 2, 8, .inl (upd (upd (upd (upd (fun _ => 0) (Int32.toNatClampNeg 4) 0) (Int32.toNatClampNeg 5) 0) (Int32.toNatClampNeg 6) 0) (Int32.toNatClampNeg 7) 0))), ((ma 28), .inl (y 2, 2, .inl (upd (fun _ => 0) (Int32.toNatClampNeg 1) 0))), ((ma 45), .inl (y 3, 8, .inr (.inl (vp_updL (vp_updL (vp_updL (vp_updL fa (Int32.toNatClampNeg 0) 0) (Int32.toNatClampNeg 1) 0) (Int32.toNatClampNeg 2) 0) (Int32.toNatClampNeg 3) 0)))), ((ma 46), .inl (y 3, 8, .inr (.inl (vp_updL (vp_updL (vp_updL (vp_updL fb (Int32.toNatClampNeg 0) 1) (Int32.toNatClampNeg 1) 1) (Int32.toNatClampNeg 2) 1) (Int32.toNatClampNeg 3) 1))))] H := hP
                                                  have hD : va_D A [(h0, .inr (11, mF ma (upd (upd (upd (upd (upd (upd (upd (upd (upd (upd (upd (upd mi 1 0) 2 0) 3 0) 4 (-1)) 5 0) 6 (-1)) 7 0) 8 (-1)) 29 0) 32 0) 33 0) 39 0) mj)), ((ma 24), .inl (y 2, 10, .inl (upd (upd (upd (upd (upd (upd (upd (upd (upd (upd (fun _ => 0) (Int32.toNatClampNeg 0) 0) (Int32.toNatClampNeg 1) 0) (Int32.toNatClampNeg 2) 0) (Int32.toNatClampNeg 3) 0) (Int32.toNatClampNeg 4) 0) (Int32.toNatClampNeg 5) 0) (Int32.toNatClampNeg 6) 0) (Int32.toNatClampNeg 7) 0) (Int32.toNatClampNeg 8) 0) (Int32.toNatClampNeg 9) 0))), ((ma 25), .inl (y 2, 8, .inl (upd (upd (upd (upd (fun _ => 0) (Int32.toNatClampNeg 4) 0) (Int32.toNatClampNeg 5) 0) (Int32.toNatClampNeg 6) 0) (Int32.toNatClampNeg 7) 0))), ((ma 28), .inl (y 2, 2, .inl (upd (fun _ => 0) (Int32.toNatClampNeg 1) 0))), ((ma 45), .inl (y 3, 8, .inr (.inl (vp_updL (vp_updL (vp_updL (vp_updL fa (Int32.toNatClampNeg 0) 0) (Int32.toNatClampNeg 1) 0) (Int32.toNatClampNeg 2) 0) (Int32.toNatClampNeg 3) 0)))), ((ma 46), .inl (y 3, 8, .inr (.inl (vp_updL (vp_updL (vp_updL (vp_updL fb (Int32.toNatClampNeg 0) 1) (Int32.toNatClampNeg 1) 1) (Int32.toNatClampNeg 2) 1) (Int32.toNatClampNeg 3) 1))))] := hD
                                                  refine lv_iinc (v := 4) (lv' := [(1, .int 4), (0, .ref h0)]) hx hb dX12_program_254 hl (k := 0) rfl (by decide) (by decide) rfl (fun ls hl => ?_)
                                                  refine lv_goto (tgt := 234) hx hb dX12_program_257 (by decide) ?_
                                                  refine lv_iload_n hx hb dX12_program_234 rfl (lv_at hl 0 rfl) ?_
                                                  refine lv_bipush (v := 8) hx hb dX12_program_235 (by decide) ?_
                                                  refine lv_icmp_ge (tgt := 260) hx hb dX12_program_237 (by decide) (fun c_44 => ?_) (fun c_44 => ?_)
                                                  · exact absurd c_44 (by decide)
                                                  · refine lv_aload_n hx hb dX12_program_240 rfl (lv_at hl 1 rfl) ?_
                                                    refine va_get (D := D) (ci := 11) (v := .ref (ma 45)) (C := RX12) (T := TX12) (N := 85) hx hb hts inX12 hown hK hP 0 rfl rfl 45 (by decide) fl97 (fun _ h9 => h9) rfl dX12_program_241 ?_
                                                    refine lv_iload_n hx hb dX12_program_244 rfl (lv_at hl 0 rfl) ?_
                                                    refine lv_lconst (v := 0) hx hb dX12_program_245 (by decide) ?_
                                                    refine va_last hx hb hK hP hD hS 4 3 rfl rfl (x_in (by decide) (by decide)) dX12_program_246 (fun H locs hP hD hS => ?_)
                                                    have hP : va_P D vwCl [(h0, .inr (11, mF ma (upd (upd (upd (upd (upd (upd (upd (upd (upd (upd (upd (upd mi 1 0) 2 0) 3 0) 4 (-1)) 5 0) 6 (-1)) 7 0) 8 (-1)) 29 0) 32 0) 33 0) 39 0) mj)), ((ma 24), .inl (y 2, 10, .inl (upd (upd (upd (upd (upd (upd (upd (upd (upd (upd (fun _ => 0) (Int32.toNatClampNeg 0) 0) (Int32.toNatClampNeg 1) 0) (Int32.toNatClampNeg 2) 0) (Int32.toNatClampNeg 3) 0) (Int32.toNatClampNeg 4) 0) (Int32.toNatClampNeg 5) 0) (Int32.toNatClampNeg 6) 0) (Int32.toNatClampNeg 7) 0) (Int32.toNatClampNeg 8) 0) (Int32.toNatClampNeg 9) 0))), ((ma 25), .inl (y 2, 8, .inl (upd (upd (upd (upd (fun _ => 0) (Int32.toNatClampNeg 4) 0) (Int32.toNatClampNeg 5) 0) (Int32.toNatClampNeg 6) 0) (Int32.toNatClampNeg 7) 0))), ((ma 28), .inl (y 2, 2, .inl (upd (fun _ => 0) (Int32.toNatClampNeg 1) 0))), ((ma 45), .inl (y 3, 8, .inr (.inl (vp_updL (vp_updL (vp_updL (vp_updL (vp_updL fa (Int32.toNatClampNeg 0) 0) (Int32.toNatClampNeg 1) 0) (Int32.toNatClampNeg 2) 0) (Int32.toNatClampNeg 3) 0) (Int32.toNatClampNeg 4) 0)))), ((ma 46), .inl (y 3, 8, .inr (.inl (vp_updL (vp_updL (vp_updL (vp_updL fb (Int32.toNatClampNeg 0) 1) (Int32.toNatClampNeg 1) 1) (Int32.toNatClampNeg 2) 1) (Int32.toNatClampNeg 3) 1))))] H := hP
                                                    have hD : va_D A [(h0, .inr (11, mF ma (upd (upd (upd (upd (upd (upd (upd (upd (upd (upd (upd (upd mi 1 0) 2 0) 3 0) 4 (-1)) 5 0) 6 (-1)) 7 0) 8 (-1)) 29 0) 32 0) 33 0) 39 0) mj)), ((ma 24), .inl (y 2, 10, .inl (upd (upd (upd (upd (upd (upd (upd (upd (upd (upd (fun _ => 0) (Int32.toNatClampNeg 0) 0) (Int32.toNatClampNeg 1) 0) (Int32.toNatClampNeg 2) 0) (Int32.toNatClampNeg 3) 0) (Int32.toNatClampNeg 4) 0) (Int32.toNatClampNeg 5) 0) (Int32.toNatClampNeg 6) 0) (Int32.toNatClampNeg 7) 0) (Int32.toNatClampNeg 8) 0) (Int32.toNatClampNeg 9) 0))), ((ma 25), .inl (y 2, 8, .inl (upd (upd (upd (upd (fun _ => 0) (Int32.toNatClampNeg 4) 0) (Int32.toNatClampNeg 5) 0) (Int32.toNatClampNeg 6) 0) (Int32.toNatClampNeg 7) 0))), ((ma 28), .inl (y 2, 2, .inl (upd (fun _ => 0) (Int32.toNatClampNeg 1) 0))), ((ma 45), .inl (y 3, 8, .inr (.inl (vp_updL (vp_updL (vp_updL (vp_updL (vp_updL fa (Int32.toNatClampNeg 0) 0) (Int32.toNatClampNeg 1) 0) (Int32.toNatClampNeg 2) 0) (Int32.toNatClampNeg 3) 0) (Int32.toNatClampNeg 4) 0)))), ((ma 46), .inl (y 3, 8, .inr (.inl (vp_updL (vp_updL (vp_updL (vp_updL fb (Int32.toNatClampNeg 0) 1) (Int32.toNatClampNeg 1) 1) (Int32.toNatClampNeg 2) 1) (Int32.toNatClampNeg 3) 1))))] := hD
                                                    refine lv_aload_n hx hb dX12_program_247 rfl (lv_at hl 1 rfl) ?_
                                                    refine va_get (D := D) (ci := 11) (v := .ref (ma 46)) (C := RX12) (T := TX12) (N := 85) hx hb hts inX12 hown hK hP 0 rfl rfl 46 (by decide) fl100 (fun _ h9 => h9) rfl dX12_program_248 ?_
                                                    refine lv_iload_n hx hb dX12_program_251 rfl (lv_at hl 0 rfl) ?_
                                                    refine lv_lconst (v := 1) hx hb dX12_program_252 (by decide) ?_
                                                    refine va_last hx hb hK hP hD hS 5 3 rfl rfl (x_in (by decide) (by decide)) dX12_program_253 (fun H locs hP hD hS => ?_)
                                                    have hP : va_P D vwCl [(h0, .inr (11, mF ma (upd (upd (upd (upd (upd (upd (upd (upd (upd (upd (upd (upd mi 1 0) 2 0) 3 0) 4 (-1)) 5 0) 6 (-1)) 7 0) 8 (-1)) 29 0) 32 0) 33 0) 39 0) mj)), ((ma 24), .inl (y 2, 10, .inl (upd (upd (upd (upd (upd (upd (upd (upd (upd (upd (fun _ => 0) (Int32.toNatClampNeg 0) 0) (Int32.toNatClampNeg 1) 0) (Int32.toNatClampNeg 2) 0) (Int32.toNatClampNeg 3) 0) (Int32.toNatClampNeg 4) 0) (Int32.toNatClampNeg 5) 0) (Int32.toNatClampNeg 6) 0) (Int32.toNatClampNeg 7) 0) (Int32.toNatClampNeg 8) 0) (Int32.toNatClampNeg 9) 0))), ((ma 25), .inl (y 2, 8, .inl (upd (upd (upd (upd (fun _ => 0) (Int32.toNatClampNeg 4) 0) (Int32.toNatClampNeg 5) 0) (Int32.toNatClampNeg 6) 0) (Int32.toNatClampNeg 7) 0))), ((ma 28), .inl (y 2, 2, .inl (upd (fun _ => 0) (Int32.toNatClampNeg 1) 0))), ((ma 45), .inl (y 3, 8, .inr (.inl (vp_updL (vp_updL (vp_updL (vp_updL (vp_updL fa (Int32.toNatClampNeg 0) 0) (Int32.toNatClampNeg 1) 0) (Int32.toNatClampNeg 2) 0) (Int32.toNatClampNeg 3) 0) (Int32.toNatClampNeg 4) 0)))), ((ma 46), .inl (y 3, 8, .inr (.inl (vp_updL (vp_updL (vp_updL (vp_updL (vp_updL fb (Int32.toNatClampNeg 0) 1) (Int32.toNatClampNeg 1) 1) (Int32.toNatClampNeg 2) 1) (Int32.toNatClampNeg 3) 1) (Int32.toNatClampNeg 4) 1))))] H := hP
                                                    have hD : va_D A [(h0, .inr (11, mF ma (upd (upd (upd (upd (upd (upd (upd (upd (upd (upd (upd (upd mi 1 0) 2 0) 3 0) 4 (-1)) 5 0) 6 (-1)) 7 0) 8 (-1)) 29 0) 32 0) 33 0) 39 0) mj)), ((ma 24), .inl (y 2, 10, .inl (upd (upd (upd (upd (upd (upd (upd (upd (upd (upd (fun _ => 0) (Int32.toNatClampNeg 0) 0) (Int32.toNatClampNeg 1) 0) (Int32.toNatClampNeg 2) 0) (Int32.toNatClampNeg 3) 0) (Int32.toNatClampNeg 4) 0) (Int32.toNatClampNeg 5) 0) (Int32.toNatClampNeg 6) 0) (Int32.toNatClampNeg 7) 0) (Int32.toNatClampNeg 8) 0) (Int32.toNatClampNeg 9) 0))), ((ma 25), .inl (y 2, 8, .inl (upd (upd (upd (upd (fun _ => 0) (Int32.toNatClampNeg 4) 0) (Int32.toNatClampNeg 5) 0) (Int32.toNatClampNeg 6) 0) (Int32.toNatClampNeg 7) 0))), ((ma 28), .inl (y 2, 2, .inl (upd (fun _ => 0) (Int32.toNatClampNeg 1) 0))), ((ma 45), .inl (y 3, 8, .inr (.inl (vp_updL (vp_updL (vp_updL (vp_updL (vp_updL fa (Int32.toNatClampNeg 0) 0) (Int32.toNatClampNeg 1) 0) (Int32.toNatClampNeg 2) 0) (Int32.toNatClampNeg 3) 0) (Int32.toNatClampNeg 4) 0)))), ((ma 46), .inl (y 3, 8, .inr (.inl (vp_updL (vp_updL (vp_updL (vp_updL (vp_updL fb (Int32.toNatClampNeg 0) 1) (Int32.toNatClampNeg 1) 1) (Int32.toNatClampNeg 2) 1) (Int32.toNatClampNeg 3) 1) (Int32.toNatClampNeg 4) 1))))] := hD
                                                    refine lv_iinc (v := 5) (lv' := [(1, .int 5), (0, .ref h0)]) hx hb dX12_program_254 hl (k := 0) rfl (by decide) (by decide) rfl (fun ls hl => ?_)
                                                    refine lv_goto (tgt := 234) hx hb dX12_program_257 (by decide) ?_
                                                    refine lv_iload_n hx hb dX12_program_234 rfl (lv_at hl 0 rfl) ?_
                                                    refine lv_bipush (v := 8) hx hb dX12_program_235 (by decide) ?_
                                                    refine lv_icmp_ge (tgt := 260) hx hb dX12_program_237 (by decide) (fun c_45 => ?_) (fun c_45 => ?_)
                                                    · exact absurd c_45 (by decide)
                                                    · refine lv_aload_n hx hb dX12_program_240 rfl (lv_at hl 1 rfl) ?_
                                                      refine va_get (D := D) (ci := 11) (v := .ref (ma 45)) (C := RX12) (T := TX12) (N := 85) hx hb hts inX12 hown hK hP 0 rfl rfl 45 (by decide) fl97 (fun _ h9 => h9) rfl dX12_program_241 ?_
                                                      refine lv_iload_n hx hb dX12_program_244 rfl (lv_at hl 0 rfl) ?_
                                                      refine lv_lconst (v := 0) hx hb dX12_program_245 (by decide) ?_
                                                      refine va_last hx hb hK hP hD hS 4 3 rfl rfl (x_in (by decide) (by decide)) dX12_program_246 (fun H locs hP hD hS => ?_)
                                                      have hP : va_P D vwCl [(h0, .inr (11, mF ma (upd (upd (upd (upd (upd (upd (upd (upd (upd (upd (upd (upd mi 1 0) 2 0) 3 0) 4 (-1)) 5 0) 6 (-1)) 7 0) 8 (-1)) 29 0) 32 0) 33 0) 39 0) mj)), ((ma 24), .inl (y 2, 10, .inl (upd (upd (upd (upd (upd (upd (upd (upd (upd (upd (fun _ => 0) (Int32.toNatClampNeg 0) 0) (Int32.toNatClampNeg 1) 0) (Int32.toNatClampNeg 2) 0) (Int32.toNatClampNeg 3) 0) (Int32.toNatClampNeg 4) 0) (Int32.toNatClampNeg 5) 0) (Int32.toNatClampNeg 6) 0) (Int32.toNatClampNeg 7) 0) (Int32.toNatClampNeg 8) 0) (Int32.toNatClampNeg 9) 0))), ((ma 25), .inl (y 2, 8, .inl (upd (upd (upd (upd (fun _ => 0) (Int32.toNatClampNeg 4) 0) (Int32.toNatClampNeg 5) 0) (Int32.toNatClampNeg 6) 0) (Int32.toNatClampNeg 7) 0))), ((ma 28), .inl (y 2, 2, .inl (upd (fun _ => 0) (Int32.toNatClampNeg 1) 0))), ((ma 45), .inl (y 3, 8, .inr (.inl (vp_updL (vp_updL (vp_updL (vp_updL (vp_updL (vp_updL fa (Int32.toNatClampNeg 0) 0) (Int32.toNatClampNeg 1) 0) (Int32.toNatClampNeg 2) 0) (Int32.toNatClampNeg 3) 0) (Int32.toNatClampNeg 4) 0) (Int32.toNatClampNeg 5) 0)))), ((ma 46), .inl (y 3, 8, .inr (.inl (vp_updL (vp_updL (vp_updL (vp_updL (vp_updL fb (Int32.toNatClampNeg 0) 1) (Int32.toNatClampNeg 1) 1) (Int32.toNatClampNeg 2) 1) (Int32.toNatClampNeg 3) 1) (Int32.toNatClampNeg 4) 1))))] H := hP
                                                      have hD : va_D A [(h0, .inr (11, mF ma (upd (upd (upd (upd (upd (upd (upd (upd (upd (upd (upd (upd mi 1 0) 2 0) 3 0) 4 (-1)) 5 0) 6 (-1)) 7 0) 8 (-1)) 29 0) 32 0) 33 0) 39 0) mj)), ((ma 24), .inl (y 2, 10, .inl (upd (upd (upd (upd (upd (upd (upd (upd (upd (upd (fun _ => 0) (Int32.toNatClampNeg 0) 0) (Int32.toNatClampNeg 1) 0) (Int32.toNatClampNeg 2) 0) (Int32.toNatClampNeg 3) 0) (Int32.toNatClampNeg 4) 0) (Int32.toNatClampNeg 5) 0) (Int32.toNatClampNeg 6) 0) (Int32.toNatClampNeg 7) 0) (Int32.toNatClampNeg 8) 0) (Int32.toNatClampNeg 9) 0))), ((ma 25), .inl (y 2, 8, .inl (upd (upd (upd (upd (fun _ => 0) (Int32.toNatClampNeg 4) 0) (Int32.toNatClampNeg 5) 0) (Int32.toNatClampNeg 6) 0) (Int32.toNatClampNeg 7) 0))), ((ma 28), .inl (y 2, 2, .inl (upd (fun _ => 0) (Int32.toNatClampNeg 1) 0))), ((ma 45), .inl (y 3, 8, .inr (.inl (vp_updL (vp_updL (vp_updL (vp_updL (vp_updL (vp_updL fa (Int32.toNatClampNeg 0) 0) (Int32.toNatClampNeg 1) 0) (Int32.toNatClampNeg 2) 0) (Int32.toNatClampNeg 3) 0) (Int32.toNatClampNeg 4) 0) (Int32.toNatClampNeg 5) 0)))), ((ma 46), .inl (y 3, 8, .inr (.inl (vp_updL (vp_updL (vp_updL (vp_updL (vp_updL fb (Int32.toNatClampNeg 0) 1) (Int32.toNatClampNeg 1) 1) (Int32.toNatClampNeg 2) 1) (Int32.toNatClampNeg 3) 1) (Int32.toNatClampNeg 4) 1))))] := hD
                                                      refine lv_aload_n hx hb dX12_program_247 rfl (lv_at hl 1 rfl) ?_
                                                      refine va_get (D := D) (ci := 11) (v := .ref (ma 46)) (C := RX12) (T := TX12) (N := 85) hx hb hts inX12 hown hK hP 0 rfl rfl 46 (by decide) fl100 (fun _ h9 => h9) rfl dX12_program_248 ?_
                                                      refine lv_iload_n hx hb dX12_program_251 rfl (lv_at hl 0 rfl) ?_
                                                      refine lv_lconst (v := 1) hx hb dX12_program_252 (by decide) ?_
                                                      refine va_last hx hb hK hP hD hS 5 3 rfl rfl (x_in (by decide) (by decide)) dX12_program_253 (fun H locs hP hD hS => ?_)
                                                      have hP : va_P D vwCl [(h0, .inr (11, mF ma (upd (upd (upd (upd (upd (upd (upd (upd (upd (upd (upd (upd mi 1 0) 2 0) 3 0) 4 (-1)) 5 0) 6 (-1)) 7 0) 8 (-1)) 29 0) 32 0) 33 0) 39 0) mj)), ((ma 24), .inl (y 2, 10, .inl (upd (upd (upd (upd (upd (upd (upd (upd (upd (upd (fun _ => 0) (Int32.toNatClampNeg 0) 0) (Int32.toNatClampNeg 1) 0) (Int32.toNatClampNeg 2) 0) (Int32.toNatClampNeg 3) 0) (Int32.toNatClampNeg 4) 0) (Int32.toNatClampNeg 5) 0) (Int32.toNatClampNeg 6) 0) (Int32.toNatClampNeg 7) 0) (Int32.toNatClampNeg 8) 0) (Int32.toNatClampNeg 9) 0))), ((ma 25), .inl (y 2, 8, .inl (upd (upd (upd (upd (fun _ => 0) (Int32.toNatClampNeg 4) 0) (Int32.toNatClampNeg 5) 0) (Int32.toNatClampNeg 6) 0) (Int32.toNatClampNeg 7) 0))), ((ma 28), .inl (y 2, 2, .inl (upd (fun _ => 0) (Int32.toNatClampNeg 1) 0))), ((ma 45), .inl (y 3, 8, .inr (.inl (vp_updL (vp_updL (vp_updL (vp_updL (vp_updL (vp_updL fa (Int32.toNatClampNeg 0) 0) (Int32.toNatClampNeg 1) 0) (Int32.toNatClampNeg 2) 0) (Int32.toNatClampNeg 3) 0) (Int32.toNatClampNeg 4) 0) (Int32.toNatClampNeg 5) 0)))), ((ma 46), .inl (y 3, 8, .inr (.inl (vp_updL (vp_updL (vp_updL (vp_updL (vp_updL (vp_updL fb (Int32.toNatClampNeg 0) 1) (Int32.toNatClampNeg 1) 1) (Int32.toNatClampNeg 2) 1) (Int32.toNatClampNeg 3) 1) (Int32.toNatClampNeg 4) 1) (Int32.toNatClampNeg 5) 1))))] H := hP
                                                      have hD : va_D A [(h0, .inr (11, mF ma (upd (upd (upd (upd (upd (upd (upd (upd (upd (upd (upd (upd mi 1 0) 2 0) 3 0) 4 (-1)) 5 0) 6 (-1)) 7 0) 8 (-1)) 29 0) 32 0) 33 0) 39 0) mj)), ((ma 24), .inl (y 2, 10, .inl (upd (upd (upd (upd (upd (upd (upd (upd (upd (upd (fun _ => 0) (Int32.toNatClampNeg 0) 0) (Int32.toNatClampNeg 1) 0) (Int32.toNatClampNeg 2) 0) (Int32.toNatClampNeg 3) 0) (Int32.toNatClampNeg 4) 0) (Int32.toNatClampNeg 5) 0) (Int32.toNatClampNeg 6) 0) (Int32.toNatClampNeg 7) 0) (Int32.toNatClampNeg 8) 0) (Int32.toNatClampNeg 9) 0))), ((ma 25), .inl (y 2, 8, .inl (upd (upd (upd (upd (fun _ => 0) (Int32.toNatClampNeg 4) 0) (Int32.toNatClampNeg 5) 0) (Int32.toNatClampNeg 6) 0) (Int32.toNatClampNeg 7) 0))), ((ma 28), .inl (y 2, 2, .inl (upd (fun _ => 0) (Int32.toNatClampNeg 1) 0))), ((ma 45), .inl (y 3, 8, .inr (.inl (vp_updL (vp_updL (vp_updL (vp_updL (vp_updL (vp_updL fa (Int32.toNatClampNeg 0) 0) (Int32.toNatClampNeg 1) 0) (Int32.toNatClampNeg 2) 0) (Int32.toNatClampNeg 3) 0) (Int32.toNatClampNeg 4) 0) (Int32.toNatClampNeg 5) 0)))), ((ma 46), .inl (y 3, 8, .inr (.inl (vp_updL (vp_updL (vp_updL (vp_updL (vp_updL (vp_updL fb (Int32.toNatClampNeg 0) 1) (Int32.toNatClampNeg 1) 1) (Int32.toNatClampNeg 2) 1) (Int32.toNatClampNeg 3) 1) (Int32.toNatClampNeg 4) 1) (Int32.toNatClampNeg 5) 1))))] := hD
                                                      refine lv_iinc (v := 6) (lv' := [(1, .int 6), (0, .ref h0)]) hx hb dX12_program_254 hl (k := 0) rfl (by decide) (by decide) rfl (fun ls hl => ?_)
                                                      refine lv_goto (tgt := 234) hx hb dX12_program_257 (by decide) ?_
                                                      refine lv_iload_n hx hb dX12_program_234 rfl (lv_at hl 0 rfl) ?_
                                                      refine lv_bipush (v := 8) hx hb dX12_program_235 (by decide) ?_
                                                      refine lv_icmp_ge (tgt := 260) hx hb dX12_program_237 (by decide) (fun c_46 => ?_) (fun c_46 => ?_)
                                                      · exact absurd c_46 (by decide)
                                                      · refine lv_aload_n hx hb dX12_program_240 rfl (lv_at hl 1 rfl) ?_
                                                        refine va_get (D := D) (ci := 11) (v := .ref (ma 45)) (C := RX12) (T := TX12) (N := 85) hx hb hts inX12 hown hK hP 0 rfl rfl 45 (by decide) fl97 (fun _ h9 => h9) rfl dX12_program_241 ?_
                                                        refine lv_iload_n hx hb dX12_program_244 rfl (lv_at hl 0 rfl) ?_
                                                        refine lv_lconst (v := 0) hx hb dX12_program_245 (by decide) ?_
                                                        refine va_last hx hb hK hP hD hS 4 3 rfl rfl (x_in (by decide) (by decide)) dX12_program_246 (fun H locs hP hD hS => ?_)
                                                        have hP : va_P D vwCl [(h0, .inr (11, mF ma (upd (upd (upd (upd (upd (upd (upd (upd (upd (upd (upd (upd mi 1 0) 2 0) 3 0) 4 (-1)) 5 0) 6 (-1)) 7 0) 8 (-1)) 29 0) 32 0) 33 0) 39 0) mj)), ((ma 24), .inl (y 2, 10, .inl (upd (upd (upd (upd (upd (upd (upd (upd (upd (upd (fun _ => 0) (Int32.toNatClampNeg 0) 0) (Int32.toNatClampNeg 1) 0) (Int32.toNatClampNeg 2) 0) (Int32.toNatClampNeg 3) 0) (Int32.toNatClampNeg 4) 0) (Int32.toNatClampNeg 5) 0) (Int32.toNatClampNeg 6) 0) (Int32.toNatClampNeg 7) 0) (Int32.toNatClampNeg 8) 0) (Int32.toNatClampNeg 9) 0))), ((ma 25), .inl (y 2, 8, .inl (upd (upd (upd (upd (fun _ => 0) (Int32.toNatClampNeg 4) 0) (Int32.toNatClampNeg 5) 0) (Int32.toNatClampNeg 6) 0) (Int32.toNatClampNeg 7) 0))), ((ma 28), .inl (y 2, 2, .inl (upd (fun _ => 0) (Int32.toNatClampNeg 1) 0))), ((ma 45), .inl (y 3, 8, .inr (.inl (vp_updL (vp_updL (vp_updL (vp_updL (vp_updL (vp_updL (vp_updL fa (Int32.toNatClampNeg 0) 0) (Int32.toNatClampNeg 1) 0) (Int32.toNatClampNeg 2) 0) (Int32.toNatClampNeg 3) 0) (Int32.toNatClampNeg 4) 0) (Int32.toNatClampNeg 5) 0) (Int32.toNatClampNeg 6) 0)))), ((ma 46), .inl (y 3, 8, .inr (.inl (vp_updL (vp_updL (vp_updL (vp_updL (vp_updL (vp_updL fb (Int32.toNatClampNeg 0) 1) (Int32.toNatClampNeg 1) 1) (Int32.toNatClampNeg 2) 1) (Int32.toNatClampNeg 3) 1) (Int32.toNatClampNeg 4) 1) (Int32.toNatClampNeg 5) 1))))] H := hP
                                                        have hD : va_D A [(h0, .inr (11, mF ma (upd (upd (upd (upd (upd (upd (upd (upd (upd (upd (upd (upd mi 1 0) 2 0) 3 0) 4 (-1)) 5 0) 6 (-1)) 7 0) 8 (-1)) 29 0) 32 0) 33 0) 39 0) mj)), ((ma 24), .inl (y 2, 10, .inl (upd (upd (upd (upd (upd (upd (upd (upd (upd (upd (fun _ => 0) (Int32.toNatClampNeg 0) 0) (Int32.toNatClampNeg 1) 0) (Int32.toNatClampNeg 2) 0) (Int32.toNatClampNeg 3) 0) (Int32.toNatClampNeg 4) 0) (Int32.toNatClampNeg 5) 0) (Int32.toNatClampNeg 6) 0) (Int32.toNatClampNeg 7) 0) (Int32.toNatClampNeg 8) 0) (Int32.toNatClampNeg 9) 0))), ((ma 25), .inl (y 2, 8, .inl (upd (upd (upd (upd (fun _ => 0) (Int32.toNatClampNeg 4) 0) (Int32.toNatClampNeg 5) 0) (Int32.toNatClampNeg 6) 0) (Int32.toNatClampNeg 7) 0))), ((ma 28), .inl (y 2, 2, .inl (upd (fun _ => 0) (Int32.toNatClampNeg 1) 0))), ((ma 45), .inl (y 3, 8, .inr (.inl (vp_updL (vp_updL (vp_updL (vp_updL (vp_updL (vp_updL (vp_updL fa (Int32.toNatClampNeg 0) 0) (Int32.toNatClampNeg 1) 0) (Int32.toNatClampNeg 2) 0) (Int32.toNatClampNeg 3) 0) (Int32.toNatClampNeg 4) 0) (Int32.toNatClampNeg 5) 0) (Int32.toNatClampNeg 6) 0)))), ((ma 46), .inl (y 3, 8, .inr (.inl (vp_updL (vp_updL (vp_updL (vp_updL (vp_updL (vp_updL fb (Int32.toNatClampNeg 0) 1) (Int32.toNatClampNeg 1) 1) (Int32.toNatClampNeg 2) 1) (Int32.toNatClampNeg 3) 1) (Int32.toNatClampNeg 4) 1) (Int32.toNatClampNeg 5) 1))))] := hD
                                                        refine lv_aload_n hx hb dX12_program_247 rfl (lv_at hl 1 rfl) ?_
                                                        refine va_get (D := D) (ci := 11) (v := .ref (ma 46)) (C := RX12) (T := TX12) (N := 85) hx hb hts inX12 hown hK hP 0 rfl rfl 46 (by decide) fl100 (fun _ h9 => h9) rfl dX12_program_248 ?_
                                                        refine lv_iload_n hx hb dX12_program_251 rfl (lv_at hl 0 rfl) ?_
                                                        refine lv_lconst (v := 1) hx hb dX12_program_252 (by decide) ?_
                                                        refine va_last hx hb hK hP hD hS 5 3 rfl rfl (x_in (by decide) (by decide)) dX12_program_253 (fun H locs hP hD hS => ?_)
                                                        have hP : va_P D vwCl [(h0, .inr (11, mF ma (upd (upd (upd (upd (upd (upd (upd (upd (upd (upd (upd (upd mi 1 0) 2 0) 3 0) 4 (-1)) 5 0) 6 (-1)) 7 0) 8 (-1)) 29 0) 32 0) 33 0) 39 0) mj)), ((ma 24), .inl (y 2, 10, .inl (upd (upd (upd (upd (upd (upd (upd (upd (upd (upd (fun _ => 0) (Int32.toNatClampNeg 0) 0) (Int32.toNatClampNeg 1) 0) (Int32.toNatClampNeg 2) 0) (Int32.toNatClampNeg 3) 0) (Int32.toNatClampNeg 4) 0) (Int32.toNatClampNeg 5) 0) (Int32.toNatClampNeg 6) 0) (Int32.toNatClampNeg 7) 0) (Int32.toNatClampNeg 8) 0) (Int32.toNatClampNeg 9) 0))), ((ma 25), .inl (y 2, 8, .inl (upd (upd (upd (upd (fun _ => 0) (Int32.toNatClampNeg 4) 0) (Int32.toNatClampNeg 5) 0) (Int32.toNatClampNeg 6) 0) (Int32.toNatClampNeg 7) 0))), ((ma 28), .inl (y 2, 2, .inl (upd (fun _ => 0) (Int32.toNatClampNeg 1) 0))), ((ma 45), .inl (y 3, 8, .inr (.inl (vp_updL (vp_updL (vp_updL (vp_updL (vp_updL (vp_updL (vp_updL fa (Int32.toNatClampNeg 0) 0) (Int32.toNatClampNeg 1) 0) (Int32.toNatClampNeg 2) 0) (Int32.toNatClampNeg 3) 0) (Int32.toNatClampNeg 4) 0) (Int32.toNatClampNeg 5) 0) (Int32.toNatClampNeg 6) 0)))), ((ma 46), .inl (y 3, 8, .inr (.inl (vp_updL (vp_updL (vp_updL (vp_updL (vp_updL (vp_updL (vp_updL fb (Int32.toNatClampNeg 0) 1) (Int32.toNatClampNeg 1) 1) (Int32.toNatClampNeg 2) 1) (Int32.toNatClampNeg 3) 1) (Int32.toNatClampNeg 4) 1) (Int32.toNatClampNeg 5) 1) (Int32.toNatClampNeg 6) 1))))] H := hP
                                                        have hD : va_D A [(h0, .inr (11, mF ma (upd (upd (upd (upd (upd (upd (upd (upd (upd (upd (upd (upd mi 1 0) 2 0) 3 0) 4 (-1)) 5 0) 6 (-1)) 7 0) 8 (-1)) 29 0) 32 0) 33 0) 39 0) mj)), ((ma 24), .inl (y 2, 10, .inl (upd (upd (upd (upd (upd (upd (upd (upd (upd (upd (fun _ => 0) (Int32.toNatClampNeg 0) 0) (Int32.toNatClampNeg 1) 0) (Int32.toNatClampNeg 2) 0) (Int32.toNatClampNeg 3) 0) (Int32.toNatClampNeg 4) 0) (Int32.toNatClampNeg 5) 0) (Int32.toNatClampNeg 6) 0) (Int32.toNatClampNeg 7) 0) (Int32.toNatClampNeg 8) 0) (Int32.toNatClampNeg 9) 0))), ((ma 25), .inl (y 2, 8, .inl (upd (upd (upd (upd (fun _ => 0) (Int32.toNatClampNeg 4) 0) (Int32.toNatClampNeg 5) 0) (Int32.toNatClampNeg 6) 0) (Int32.toNatClampNeg 7) 0))), ((ma 28), .inl (y 2, 2, .inl (upd (fun _ => 0) (Int32.toNatClampNeg 1) 0))), ((ma 45), .inl (y 3, 8, .inr (.inl (vp_updL (vp_updL (vp_updL (vp_updL (vp_updL (vp_updL (vp_updL fa (Int32.toNatClampNeg 0) 0) (Int32.toNatClampNeg 1) 0) (Int32.toNatClampNeg 2) 0) (Int32.toNatClampNeg 3) 0) (Int32.toNatClampNeg 4) 0) (Int32.toNatClampNeg 5) 0) (Int32.toNatClampNeg 6) 0)))), ((ma 46), .inl (y 3, 8, .inr (.inl (vp_updL (vp_updL (vp_updL (vp_updL (vp_updL (vp_updL (vp_updL fb (Int32.toNatClampNeg 0) 1) (Int32.toNatClampNeg 1) 1) (Int32.toNatClampNeg 2) 1) (Int32.toNatClampNeg 3) 1) (Int32.toNatClampNeg 4) 1) (Int32.toNatClampNeg 5) 1) (Int32.toNatClampNeg 6) 1))))] := hD
                                                        refine lv_iinc (v := 7) (lv' := [(1, .int 7), (0, .ref h0)]) hx hb dX12_program_254 hl (k := 0) rfl (by decide) (by decide) rfl (fun ls hl => ?_)
                                                        refine lv_goto (tgt := 234) hx hb dX12_program_257 (by decide) ?_
                                                        refine lv_iload_n hx hb dX12_program_234 rfl (lv_at hl 0 rfl) ?_
                                                        refine lv_bipush (v := 8) hx hb dX12_program_235 (by decide) ?_
                                                        refine lv_icmp_ge (tgt := 260) hx hb dX12_program_237 (by decide) (fun c_47 => ?_) (fun c_47 => ?_)
                                                        · exact absurd c_47 (by decide)
                                                        · refine lv_aload_n hx hb dX12_program_240 rfl (lv_at hl 1 rfl) ?_
                                                          refine va_get (D := D) (ci := 11) (v := .ref (ma 45)) (C := RX12) (T := TX12) (N := 85) hx hb hts inX12 hown hK hP 0 rfl rfl 45 (by decide) fl97 (fun _ h9 => h9) rfl dX12_program_241 ?_
                                                          refine lv_iload_n hx hb dX12_program_244 rfl (lv_at hl 0 rfl) ?_
                                                          refine lv_lconst (v := 0) hx hb dX12_program_245 (by decide) ?_
                                                          refine va_last hx hb hK hP hD hS 4 3 rfl rfl (x_in (by decide) (by decide)) dX12_program_246 (fun H locs hP hD hS => ?_)
                                                          have hP : va_P D vwCl [(h0, .inr (11, mF ma (upd (upd (upd (upd (upd (upd (upd (upd (upd (upd (upd (upd mi 1 0) 2 0) 3 0) 4 (-1)) 5 0) 6 (-1)) 7 0) 8 (-1)) 29 0) 32 0) 33 0) 39 0) mj)), ((ma 24), .inl (y 2, 10, .inl (upd (upd (upd (upd (upd (upd (upd (upd (upd (upd (fun _ => 0) (Int32.toNatClampNeg 0) 0) (Int32.toNatClampNeg 1) 0) (Int32.toNatClampNeg 2) 0) (Int32.toNatClampNeg 3) 0) (Int32.toNatClampNeg 4) 0) (Int32.toNatClampNeg 5) 0) (Int32.toNatClampNeg 6) 0) (Int32.toNatClampNeg 7) 0) (Int32.toNatClampNeg 8) 0) (Int32.toNatClampNeg 9) 0))), ((ma 25), .inl (y 2, 8, .inl (upd (upd (upd (upd (fun _ => 0) (Int32.toNatClampNeg 4) 0) (Int32.toNatClampNeg 5) 0) (Int32.toNatClampNeg 6) 0) (Int32.toNatClampNeg 7) 0))), ((ma 28), .inl (y 2, 2, .inl (upd (fun _ => 0) (Int32.toNatClampNeg 1) 0))), ((ma 45), .inl (y 3, 8, .inr (.inl (vp_updL (vp_updL (vp_updL (vp_updL (vp_updL (vp_updL (vp_updL (vp_updL fa (Int32.toNatClampNeg 0) 0) (Int32.toNatClampNeg 1) 0) (Int32.toNatClampNeg 2) 0) (Int32.toNatClampNeg 3) 0) (Int32.toNatClampNeg 4) 0) (Int32.toNatClampNeg 5) 0) (Int32.toNatClampNeg 6) 0) (Int32.toNatClampNeg 7) 0)))), ((ma 46), .inl (y 3, 8, .inr (.inl (vp_updL (vp_updL (vp_updL (vp_updL (vp_updL (vp_updL (vp_updL fb (Int32.toNatClampNeg 0) 1) (Int32.toNatClampNeg 1) 1) (Int32.toNatClampNeg 2) 1) (Int32.toNatClampNeg 3) 1) (Int32.toNatClampNeg 4) 1) (Int32.toNatClampNeg 5) 1) (Int32.toNatClampNeg 6) 1))))] H := hP
                                                          have hD : va_D A [(h0, .inr (11, mF ma (upd (upd (upd (upd (upd (upd (upd (upd (upd (upd (upd (upd mi 1 0) 2 0) 3 0) 4 (-1)) 5 0) 6 (-1)) 7 0) 8 (-1)) 29 0) 32 0) 33 0) 39 0) mj)), ((ma 24), .inl (y 2, 10, .inl (upd (upd (upd (upd (upd (upd (upd (upd (upd (upd (fun _ => 0) (Int32.toNatClampNeg 0) 0) (Int32.toNatClampNeg 1) 0) (Int32.toNatClampNeg 2) 0) (Int32.toNatClampNeg 3) 0) (Int32.toNatClampNeg 4) 0) (Int32.toNatClampNeg 5) 0) (Int32.toNatClampNeg 6) 0) (Int32.toNatClampNeg 7) 0) (Int32.toNatClampNeg 8) 0) (Int32.toNatClampNeg 9) 0))), ((ma 25), .inl (y 2, 8, .inl (upd (upd (upd (upd (fun _ => 0) (Int32.toNatClampNeg 4) 0) (Int32.toNatClampNeg 5) 0) (Int32.toNatClampNeg 6) 0) (Int32.toNatClampNeg 7) 0))), ((ma 28), .inl (y 2, 2, .inl (upd (fun _ => 0) (Int32.toNatClampNeg 1) 0))), ((ma 45), .inl (y 3, 8, .inr (.inl (vp_updL (vp_updL (vp_updL (vp_updL (vp_updL (vp_updL (vp_updL (vp_updL fa (Int32.toNatClampNeg 0) 0) (Int32.toNatClampNeg 1) 0) (Int32.toNatClampNeg 2) 0) (Int32.toNatClampNeg 3) 0) (Int32.toNatClampNeg 4) 0) (Int32.toNatClampNeg 5) 0) (Int32.toNatClampNeg 6) 0) (Int32.toNatClampNeg 7) 0)))), ((ma 46), .inl (y 3, 8, .inr (.inl (vp_updL (vp_updL (vp_updL (vp_updL (vp_updL (vp_updL (vp_updL fb (Int32.toNatClampNeg 0) 1) (Int32.toNatClampNeg 1) 1) (Int32.toNatClampNeg 2) 1) (Int32.toNatClampNeg 3) 1) (Int32.toNatClampNeg 4) 1) (Int32.toNatClampNeg 5) 1) (Int32.toNatClampNeg 6) 1))))] := hD
                                                          refine lv_aload_n hx hb dX12_program_247 rfl (lv_at hl 1 rfl) ?_
                                                          refine va_get (D := D) (ci := 11) (v := .ref (ma 46)) (C := RX12) (T := TX12) (N := 85) hx hb hts inX12 hown hK hP 0 rfl rfl 46 (by decide) fl100 (fun _ h9 => h9) rfl dX12_program_248 ?_
                                                          refine lv_iload_n hx hb dX12_program_251 rfl (lv_at hl 0 rfl) ?_
                                                          refine lv_lconst (v := 1) hx hb dX12_program_252 (by decide) ?_
                                                          refine va_last hx hb hK hP hD hS 5 3 rfl rfl (x_in (by decide) (by decide)) dX12_program_253 (fun H locs hP hD hS => ?_)
                                                          have hP : va_P D vwCl [(h0, .inr (11, mF ma (upd (upd (upd (upd (upd (upd (upd (upd (upd (upd (upd (upd mi 1 0) 2 0) 3 0) 4 (-1)) 5 0) 6 (-1)) 7 0) 8 (-1)) 29 0) 32 0) 33 0) 39 0) mj)), ((ma 24), .inl (y 2, 10, .inl (upd (upd (upd (upd (upd (upd (upd (upd (upd (upd (fun _ => 0) (Int32.toNatClampNeg 0) 0) (Int32.toNatClampNeg 1) 0) (Int32.toNatClampNeg 2) 0) (Int32.toNatClampNeg 3) 0) (Int32.toNatClampNeg 4) 0) (Int32.toNatClampNeg 5) 0) (Int32.toNatClampNeg 6) 0) (Int32.toNatClampNeg 7) 0) (Int32.toNatClampNeg 8) 0) (Int32.toNatClampNeg 9) 0))), ((ma 25), .inl (y 2, 8, .inl (upd (upd (upd (upd (fun _ => 0) (Int32.toNatClampNeg 4) 0) (Int32.toNatClampNeg 5) 0) (Int32.toNatClampNeg 6) 0) (Int32.toNatClampNeg 7) 0))), ((ma 28), .inl (y 2, 2, .inl (upd (fun _ => 0) (Int32.toNatClampNeg 1) 0))), ((ma 45), .inl (y 3, 8, .inr (.inl (vp_updL (vp_updL (vp_updL (vp_updL (vp_updL (vp_updL (vp_updL (vp_updL fa (Int32.toNatClampNeg 0) 0) (Int32.toNatClampNeg 1) 0) (Int32.toNatClampNeg 2) 0) (Int32.toNatClampNeg 3) 0) (Int32.toNatClampNeg 4) 0) (Int32.toNatClampNeg 5) 0) (Int32.toNatClampNeg 6) 0) (Int32.toNatClampNeg 7) 0)))), ((ma 46), .inl (y 3, 8, .inr (.inl (vp_updL (vp_updL (vp_updL (vp_updL (vp_updL (vp_updL (vp_updL (vp_updL fb (Int32.toNatClampNeg 0) 1) (Int32.toNatClampNeg 1) 1) (Int32.toNatClampNeg 2) 1) (Int32.toNatClampNeg 3) 1) (Int32.toNatClampNeg 4) 1) (Int32.toNatClampNeg 5) 1) (Int32.toNatClampNeg 6) 1) (Int32.toNatClampNeg 7) 1))))] H := hP
                                                          have hD : va_D A [(h0, .inr (11, mF ma (upd (upd (upd (upd (upd (upd (upd (upd (upd (upd (upd (upd mi 1 0) 2 0) 3 0) 4 (-1)) 5 0) 6 (-1)) 7 0) 8 (-1)) 29 0) 32 0) 33 0) 39 0) mj)), ((ma 24), .inl (y 2, 10, .inl (upd (upd (upd (upd (upd (upd (upd (upd (upd (upd (fun _ => 0) (Int32.toNatClampNeg 0) 0) (Int32.toNatClampNeg 1) 0) (Int32.toNatClampNeg 2) 0) (Int32.toNatClampNeg 3) 0) (Int32.toNatClampNeg 4) 0) (Int32.toNatClampNeg 5) 0) (Int32.toNatClampNeg 6) 0) (Int32.toNatClampNeg 7) 0) (Int32.toNatClampNeg 8) 0) (Int32.toNatClampNeg 9) 0))), ((ma 25), .inl (y 2, 8, .inl (upd (upd (upd (upd (fun _ => 0) (Int32.toNatClampNeg 4) 0) (Int32.toNatClampNeg 5) 0) (Int32.toNatClampNeg 6) 0) (Int32.toNatClampNeg 7) 0))), ((ma 28), .inl (y 2, 2, .inl (upd (fun _ => 0) (Int32.toNatClampNeg 1) 0))), ((ma 45), .inl (y 3, 8, .inr (.inl (vp_updL (vp_updL (vp_updL (vp_updL (vp_updL (vp_updL (vp_updL (vp_updL fa (Int32.toNatClampNeg 0) 0) (Int32.toNatClampNeg 1) 0) (Int32.toNatClampNeg 2) 0) (Int32.toNatClampNeg 3) 0) (Int32.toNatClampNeg 4) 0) (Int32.toNatClampNeg 5) 0) (Int32.toNatClampNeg 6) 0) (Int32.toNatClampNeg 7) 0)))), ((ma 46), .inl (y 3, 8, .inr (.inl (vp_updL (vp_updL (vp_updL (vp_updL (vp_updL (vp_updL (vp_updL (vp_updL fb (Int32.toNatClampNeg 0) 1) (Int32.toNatClampNeg 1) 1) (Int32.toNatClampNeg 2) 1) (Int32.toNatClampNeg 3) 1) (Int32.toNatClampNeg 4) 1) (Int32.toNatClampNeg 5) 1) (Int32.toNatClampNeg 6) 1) (Int32.toNatClampNeg 7) 1))))] := hD
                                                          refine lv_iinc (v := 8) (lv' := [(1, .int 8), (0, .ref h0)]) hx hb dX12_program_254 hl (k := 0) rfl (by decide) (by decide) rfl (fun ls hl => ?_)
                                                          refine lv_goto (tgt := 234) hx hb dX12_program_257 (by decide) ?_
                                                          refine lv_iload_n hx hb dX12_program_234 rfl (lv_at hl 0 rfl) ?_
                                                          refine lv_bipush (v := 8) hx hb dX12_program_235 (by decide) ?_
                                                          refine lv_icmp_ge (tgt := 260) hx hb dX12_program_237 (by decide) (fun c_48 => ?_) (fun c_48 => ?_)
                                                          · refine lv_aload_n hx hb dX12_program_260 rfl (lv_at hl 1 rfl) ?_
                                                            refine lv_iconst (v := 0) hx hb dX12_program_261 (by decide) ?_
                                                            refine va_put (D := D) (ci := 11) (v := .int 0) (ty := .int) (C := RX12) (T := TX12) (N := 85) hx hb hts inX12 tyX12 tyX12_ok nmX12 hown hK hP hD hS 0 rfl rfl 47 (by decide) fl365 (fun _ h9 => h9) rfl (by decide +kernel) rfl rfl (Nat.le_of_ble_eq_true rfl) dX12_program_262 (fun H locs hP hD hS => ?_)
                                                            have hP : va_P D vwCl [(h0, .inr (11, mF ma (upd (upd (upd (upd (upd (upd (upd (upd (upd (upd (upd (upd (upd mi 1 0) 2 0) 3 0) 4 (-1)) 5 0) 6 (-1)) 7 0) 8 (-1)) 29 0) 32 0) 33 0) 39 0) 47 0) mj)), ((ma 24), .inl (y 2, 10, .inl (upd (upd (upd (upd (upd (upd (upd (upd (upd (upd (fun _ => 0) (Int32.toNatClampNeg 0) 0) (Int32.toNatClampNeg 1) 0) (Int32.toNatClampNeg 2) 0) (Int32.toNatClampNeg 3) 0) (Int32.toNatClampNeg 4) 0) (Int32.toNatClampNeg 5) 0) (Int32.toNatClampNeg 6) 0) (Int32.toNatClampNeg 7) 0) (Int32.toNatClampNeg 8) 0) (Int32.toNatClampNeg 9) 0))), ((ma 25), .inl (y 2, 8, .inl (upd (upd (upd (upd (fun _ => 0) (Int32.toNatClampNeg 4) 0) (Int32.toNatClampNeg 5) 0) (Int32.toNatClampNeg 6) 0) (Int32.toNatClampNeg 7) 0))), ((ma 28), .inl (y 2, 2, .inl (upd (fun _ => 0) (Int32.toNatClampNeg 1) 0))), ((ma 45), .inl (y 3, 8, .inr (.inl (vp_updL (vp_updL (vp_updL (vp_updL (vp_updL (vp_updL (vp_updL (vp_updL fa (Int32.toNatClampNeg 0) 0) (Int32.toNatClampNeg 1) 0) (Int32.toNatClampNeg 2) 0) (Int32.toNatClampNeg 3) 0) (Int32.toNatClampNeg 4) 0) (Int32.toNatClampNeg 5) 0) (Int32.toNatClampNeg 6) 0) (Int32.toNatClampNeg 7) 0)))), ((ma 46), .inl (y 3, 8, .inr (.inl (vp_updL (vp_updL (vp_updL (vp_updL (vp_updL (vp_updL (vp_updL (vp_updL fb (Int32.toNatClampNeg 0) 1) (Int32.toNatClampNeg 1) 1) (Int32.toNatClampNeg 2) 1) (Int32.toNatClampNeg 3) 1) (Int32.toNatClampNeg 4) 1) (Int32.toNatClampNeg 5) 1) (Int32.toNatClampNeg 6) 1) (Int32.toNatClampNeg 7) 1))))] H := hP
                                                            have hD : va_D A [(h0, .inr (11, mF ma (upd (upd (upd (upd (upd (upd (upd (upd (upd (upd (upd (upd (upd mi 1 0) 2 0) 3 0) 4 (-1)) 5 0) 6 (-1)) 7 0) 8 (-1)) 29 0) 32 0) 33 0) 39 0) 47 0) mj)), ((ma 24), .inl (y 2, 10, .inl (upd (upd (upd (upd (upd (upd (upd (upd (upd (upd (fun _ => 0) (Int32.toNatClampNeg 0) 0) (Int32.toNatClampNeg 1) 0) (Int32.toNatClampNeg 2) 0) (Int32.toNatClampNeg 3) 0) (Int32.toNatClampNeg 4) 0) (Int32.toNatClampNeg 5) 0) (Int32.toNatClampNeg 6) 0) (Int32.toNatClampNeg 7) 0) (Int32.toNatClampNeg 8) 0) (Int32.toNatClampNeg 9) 0))), ((ma 25), .inl (y 2, 8, .inl (upd (upd (upd (upd (fun _ => 0) (Int32.toNatClampNeg 4) 0) (Int32.toNatClampNeg 5) 0) (Int32.toNatClampNeg 6) 0) (Int32.toNatClampNeg 7) 0))), ((ma 28), .inl (y 2, 2, .inl (upd (fun _ => 0) (Int32.toNatClampNeg 1) 0))), ((ma 45), .inl (y 3, 8, .inr (.inl (vp_updL (vp_updL (vp_updL (vp_updL (vp_updL (vp_updL (vp_updL (vp_updL fa (Int32.toNatClampNeg 0) 0) (Int32.toNatClampNeg 1) 0) (Int32.toNatClampNeg 2) 0) (Int32.toNatClampNeg 3) 0) (Int32.toNatClampNeg 4) 0) (Int32.toNatClampNeg 5) 0) (Int32.toNatClampNeg 6) 0) (Int32.toNatClampNeg 7) 0)))), ((ma 46), .inl (y 3, 8, .inr (.inl (vp_updL (vp_updL (vp_updL (vp_updL (vp_updL (vp_updL (vp_updL (vp_updL fb (Int32.toNatClampNeg 0) 1) (Int32.toNatClampNeg 1) 1) (Int32.toNatClampNeg 2) 1) (Int32.toNatClampNeg 3) 1) (Int32.toNatClampNeg 4) 1) (Int32.toNatClampNeg 5) 1) (Int32.toNatClampNeg 6) 1) (Int32.toNatClampNeg 7) 1))))] := hD
                                                            refine lv_aload_n hx hb dX12_program_265 rfl (lv_at hl 1 rfl) ?_
                                                            refine lv_iconst (v := 0) hx hb dX12_program_266 (by decide) ?_
                                                            refine va_put (D := D) (ci := 11) (v := .int 0) (ty := .int) (C := RX12) (T := TX12) (N := 85) hx hb hts inX12 tyX12 tyX12_ok nmX12 hown hK hP hD hS 0 rfl rfl 48 (by decide) fl368 (fun _ h9 => h9) rfl (by decide +kernel) rfl rfl (Nat.le_of_ble_eq_true rfl) dX12_program_267 (fun H locs hP hD hS => ?_)
                                                            have hP : va_P D vwCl [(h0, .inr (11, mF ma (upd (upd (upd (upd (upd (upd (upd (upd (upd (upd (upd (upd (upd (upd mi 1 0) 2 0) 3 0) 4 (-1)) 5 0) 6 (-1)) 7 0) 8 (-1)) 29 0) 32 0) 33 0) 39 0) 47 0) 48 0) mj)), ((ma 24), .inl (y 2, 10, .inl (upd (upd (upd (upd (upd (upd (upd (upd (upd (upd (fun _ => 0) (Int32.toNatClampNeg 0) 0) (Int32.toNatClampNeg 1) 0) (Int32.toNatClampNeg 2) 0) (Int32.toNatClampNeg 3) 0) (Int32.toNatClampNeg 4) 0) (Int32.toNatClampNeg 5) 0) (Int32.toNatClampNeg 6) 0) (Int32.toNatClampNeg 7) 0) (Int32.toNatClampNeg 8) 0) (Int32.toNatClampNeg 9) 0))), ((ma 25), .inl (y 2, 8, .inl (upd (upd (upd (upd (fun _ => 0) (Int32.toNatClampNeg 4) 0) (Int32.toNatClampNeg 5) 0) (Int32.toNatClampNeg 6) 0) (Int32.toNatClampNeg 7) 0))), ((ma 28), .inl (y 2, 2, .inl (upd (fun _ => 0) (Int32.toNatClampNeg 1) 0))), ((ma 45), .inl (y 3, 8, .inr (.inl (vp_updL (vp_updL (vp_updL (vp_updL (vp_updL (vp_updL (vp_updL (vp_updL fa (Int32.toNatClampNeg 0) 0) (Int32.toNatClampNeg 1) 0) (Int32.toNatClampNeg 2) 0) (Int32.toNatClampNeg 3) 0) (Int32.toNatClampNeg 4) 0) (Int32.toNatClampNeg 5) 0) (Int32.toNatClampNeg 6) 0) (Int32.toNatClampNeg 7) 0)))), ((ma 46), .inl (y 3, 8, .inr (.inl (vp_updL (vp_updL (vp_updL (vp_updL (vp_updL (vp_updL (vp_updL (vp_updL fb (Int32.toNatClampNeg 0) 1) (Int32.toNatClampNeg 1) 1) (Int32.toNatClampNeg 2) 1) (Int32.toNatClampNeg 3) 1) (Int32.toNatClampNeg 4) 1) (Int32.toNatClampNeg 5) 1) (Int32.toNatClampNeg 6) 1) (Int32.toNatClampNeg 7) 1))))] H := hP
                                                            have hD : va_D A [(h0, .inr (11, mF ma (upd (upd (upd (upd (upd (upd (upd (upd (upd (upd (upd (upd (upd (upd mi 1 0) 2 0) 3 0) 4 (-1)) 5 0) 6 (-1)) 7 0) 8 (-1)) 29 0) 32 0) 33 0) 39 0) 47 0) 48 0) mj)), ((ma 24), .inl (y 2, 10, .inl (upd (upd (upd (upd (upd (upd (upd (upd (upd (upd (fun _ => 0) (Int32.toNatClampNeg 0) 0) (Int32.toNatClampNeg 1) 0) (Int32.toNatClampNeg 2) 0) (Int32.toNatClampNeg 3) 0) (Int32.toNatClampNeg 4) 0) (Int32.toNatClampNeg 5) 0) (Int32.toNatClampNeg 6) 0) (Int32.toNatClampNeg 7) 0) (Int32.toNatClampNeg 8) 0) (Int32.toNatClampNeg 9) 0))), ((ma 25), .inl (y 2, 8, .inl (upd (upd (upd (upd (fun _ => 0) (Int32.toNatClampNeg 4) 0) (Int32.toNatClampNeg 5) 0) (Int32.toNatClampNeg 6) 0) (Int32.toNatClampNeg 7) 0))), ((ma 28), .inl (y 2, 2, .inl (upd (fun _ => 0) (Int32.toNatClampNeg 1) 0))), ((ma 45), .inl (y 3, 8, .inr (.inl (vp_updL (vp_updL (vp_updL (vp_updL (vp_updL (vp_updL (vp_updL (vp_updL fa (Int32.toNatClampNeg 0) 0) (Int32.toNatClampNeg 1) 0) (Int32.toNatClampNeg 2) 0) (Int32.toNatClampNeg 3) 0) (Int32.toNatClampNeg 4) 0) (Int32.toNatClampNeg 5) 0) (Int32.toNatClampNeg 6) 0) (Int32.toNatClampNeg 7) 0)))), ((ma 46), .inl (y 3, 8, .inr (.inl (vp_updL (vp_updL (vp_updL (vp_updL (vp_updL (vp_updL (vp_updL (vp_updL fb (Int32.toNatClampNeg 0) 1) (Int32.toNatClampNeg 1) 1) (Int32.toNatClampNeg 2) 1) (Int32.toNatClampNeg 3) 1) (Int32.toNatClampNeg 4) 1) (Int32.toNatClampNeg 5) 1) (Int32.toNatClampNeg 6) 1) (Int32.toNatClampNeg 7) 1))))] := hD
                                                            refine lv_aload_n hx hb dX12_program_270 rfl (lv_at hl 1 rfl) ?_
                                                            refine lv_iconst (v := 0) hx hb dX12_program_271 (by decide) ?_
                                                            refine va_put (D := D) (ci := 11) (v := .int 0) (ty := .boolean) (C := RX12) (T := TX12) (N := 85) hx hb hts inX12 tyX12 tyX12_ok nmX12 hown hK hP hD hS 0 rfl rfl 54 (by decide) fl371 (fun _ h9 => h9) rfl (by decide +kernel) rfl rfl (Nat.le_of_ble_eq_true rfl) dX12_program_272 (fun H locs hP hD hS => ?_)
                                                            have hP : va_P D vwCl [(h0, .inr (11, mF ma (upd (upd (upd (upd (upd (upd (upd (upd (upd (upd (upd (upd (upd (upd (upd mi 1 0) 2 0) 3 0) 4 (-1)) 5 0) 6 (-1)) 7 0) 8 (-1)) 29 0) 32 0) 33 0) 39 0) 47 0) 48 0) 54 0) mj)), ((ma 24), .inl (y 2, 10, .inl (upd (upd (upd (upd (upd (upd (upd (upd (upd (upd (fun _ => 0) (Int32.toNatClampNeg 0) 0) (Int32.toNatClampNeg 1) 0) (Int32.toNatClampNeg 2) 0) (Int32.toNatClampNeg 3) 0) (Int32.toNatClampNeg 4) 0) (Int32.toNatClampNeg 5) 0) (Int32.toNatClampNeg 6) 0) (Int32.toNatClampNeg 7) 0) (Int32.toNatClampNeg 8) 0) (Int32.toNatClampNeg 9) 0))), ((ma 25), .inl (y 2, 8, .inl (upd (upd (upd (upd (fun _ => 0) (Int32.toNatClampNeg 4) 0) (Int32.toNatClampNeg 5) 0) (Int32.toNatClampNeg 6) 0) (Int32.toNatClampNeg 7) 0))), ((ma 28), .inl (y 2, 2, .inl (upd (fun _ => 0) (Int32.toNatClampNeg 1) 0))), ((ma 45), .inl (y 3, 8, .inr (.inl (vp_updL (vp_updL (vp_updL (vp_updL (vp_updL (vp_updL (vp_updL (vp_updL fa (Int32.toNatClampNeg 0) 0) (Int32.toNatClampNeg 1) 0) (Int32.toNatClampNeg 2) 0) (Int32.toNatClampNeg 3) 0) (Int32.toNatClampNeg 4) 0) (Int32.toNatClampNeg 5) 0) (Int32.toNatClampNeg 6) 0) (Int32.toNatClampNeg 7) 0)))), ((ma 46), .inl (y 3, 8, .inr (.inl (vp_updL (vp_updL (vp_updL (vp_updL (vp_updL (vp_updL (vp_updL (vp_updL fb (Int32.toNatClampNeg 0) 1) (Int32.toNatClampNeg 1) 1) (Int32.toNatClampNeg 2) 1) (Int32.toNatClampNeg 3) 1) (Int32.toNatClampNeg 4) 1) (Int32.toNatClampNeg 5) 1) (Int32.toNatClampNeg 6) 1) (Int32.toNatClampNeg 7) 1))))] H := hP
                                                            have hD : va_D A [(h0, .inr (11, mF ma (upd (upd (upd (upd (upd (upd (upd (upd (upd (upd (upd (upd (upd (upd (upd mi 1 0) 2 0) 3 0) 4 (-1)) 5 0) 6 (-1)) 7 0) 8 (-1)) 29 0) 32 0) 33 0) 39 0) 47 0) 48 0) 54 0) mj)), ((ma 24), .inl (y 2, 10, .inl (upd (upd (upd (upd (upd (upd (upd (upd (upd (upd (fun _ => 0) (Int32.toNatClampNeg 0) 0) (Int32.toNatClampNeg 1) 0) (Int32.toNatClampNeg 2) 0) (Int32.toNatClampNeg 3) 0) (Int32.toNatClampNeg 4) 0) (Int32.toNatClampNeg 5) 0) (Int32.toNatClampNeg 6) 0) (Int32.toNatClampNeg 7) 0) (Int32.toNatClampNeg 8) 0) (Int32.toNatClampNeg 9) 0))), ((ma 25), .inl (y 2, 8, .inl (upd (upd (upd (upd (fun _ => 0) (Int32.toNatClampNeg 4) 0) (Int32.toNatClampNeg 5) 0) (Int32.toNatClampNeg 6) 0) (Int32.toNatClampNeg 7) 0))), ((ma 28), .inl (y 2, 2, .inl (upd (fun _ => 0) (Int32.toNatClampNeg 1) 0))), ((ma 45), .inl (y 3, 8, .inr (.inl (vp_updL (vp_updL (vp_updL (vp_updL (vp_updL (vp_updL (vp_updL (vp_updL fa (Int32.toNatClampNeg 0) 0) (Int32.toNatClampNeg 1) 0) (Int32.toNatClampNeg 2) 0) (Int32.toNatClampNeg 3) 0) (Int32.toNatClampNeg 4) 0) (Int32.toNatClampNeg 5) 0) (Int32.toNatClampNeg 6) 0) (Int32.toNatClampNeg 7) 0)))), ((ma 46), .inl (y 3, 8, .inr (.inl (vp_updL (vp_updL (vp_updL (vp_updL (vp_updL (vp_updL (vp_updL (vp_updL fb (Int32.toNatClampNeg 0) 1) (Int32.toNatClampNeg 1) 1) (Int32.toNatClampNeg 2) 1) (Int32.toNatClampNeg 3) 1) (Int32.toNatClampNeg 4) 1) (Int32.toNatClampNeg 5) 1) (Int32.toNatClampNeg 6) 1) (Int32.toNatClampNeg 7) 1))))] := hD
                                                            refine lv_aload_n hx hb dX12_program_275 rfl (lv_at hl 1 rfl) ?_
                                                            refine lv_iconst (v := 0) hx hb dX12_program_276 (by decide) ?_
                                                            refine va_put (D := D) (ci := 11) (v := .int 0) (ty := .boolean) (C := RX12) (T := TX12) (N := 85) hx hb hts inX12 tyX12 tyX12_ok nmX12 hown hK hP hD hS 0 rfl rfl 78 (by decide) fl375 (fun _ h9 => h9) rfl (by decide +kernel) rfl rfl (Nat.le_of_ble_eq_true rfl) dX12_program_277 (fun H locs hP hD hS => ?_)
                                                            have hP : va_P D vwCl [(h0, .inr (11, mF ma (upd (upd (upd (upd (upd (upd (upd (upd (upd (upd (upd (upd (upd (upd (upd (upd mi 1 0) 2 0) 3 0) 4 (-1)) 5 0) 6 (-1)) 7 0) 8 (-1)) 29 0) 32 0) 33 0) 39 0) 47 0) 48 0) 54 0) 78 0) mj)), ((ma 24), .inl (y 2, 10, .inl (upd (upd (upd (upd (upd (upd (upd (upd (upd (upd (fun _ => 0) (Int32.toNatClampNeg 0) 0) (Int32.toNatClampNeg 1) 0) (Int32.toNatClampNeg 2) 0) (Int32.toNatClampNeg 3) 0) (Int32.toNatClampNeg 4) 0) (Int32.toNatClampNeg 5) 0) (Int32.toNatClampNeg 6) 0) (Int32.toNatClampNeg 7) 0) (Int32.toNatClampNeg 8) 0) (Int32.toNatClampNeg 9) 0))), ((ma 25), .inl (y 2, 8, .inl (upd (upd (upd (upd (fun _ => 0) (Int32.toNatClampNeg 4) 0) (Int32.toNatClampNeg 5) 0) (Int32.toNatClampNeg 6) 0) (Int32.toNatClampNeg 7) 0))), ((ma 28), .inl (y 2, 2, .inl (upd (fun _ => 0) (Int32.toNatClampNeg 1) 0))), ((ma 45), .inl (y 3, 8, .inr (.inl (vp_updL (vp_updL (vp_updL (vp_updL (vp_updL (vp_updL (vp_updL (vp_updL fa (Int32.toNatClampNeg 0) 0) (Int32.toNatClampNeg 1) 0) (Int32.toNatClampNeg 2) 0) (Int32.toNatClampNeg 3) 0) (Int32.toNatClampNeg 4) 0) (Int32.toNatClampNeg 5) 0) (Int32.toNatClampNeg 6) 0) (Int32.toNatClampNeg 7) 0)))), ((ma 46), .inl (y 3, 8, .inr (.inl (vp_updL (vp_updL (vp_updL (vp_updL (vp_updL (vp_updL (vp_updL (vp_updL fb (Int32.toNatClampNeg 0) 1) (Int32.toNatClampNeg 1) 1) (Int32.toNatClampNeg 2) 1) (Int32.toNatClampNeg 3) 1) (Int32.toNatClampNeg 4) 1) (Int32.toNatClampNeg 5) 1) (Int32.toNatClampNeg 6) 1) (Int32.toNatClampNeg 7) 1))))] H := hP
                                                            have hD : va_D A [(h0, .inr (11, mF ma (upd (upd (upd (upd (upd (upd (upd (upd (upd (upd (upd (upd (upd (upd (upd (upd mi 1 0) 2 0) 3 0) 4 (-1)) 5 0) 6 (-1)) 7 0) 8 (-1)) 29 0) 32 0) 33 0) 39 0) 47 0) 48 0) 54 0) 78 0) mj)), ((ma 24), .inl (y 2, 10, .inl (upd (upd (upd (upd (upd (upd (upd (upd (upd (upd (fun _ => 0) (Int32.toNatClampNeg 0) 0) (Int32.toNatClampNeg 1) 0) (Int32.toNatClampNeg 2) 0) (Int32.toNatClampNeg 3) 0) (Int32.toNatClampNeg 4) 0) (Int32.toNatClampNeg 5) 0) (Int32.toNatClampNeg 6) 0) (Int32.toNatClampNeg 7) 0) (Int32.toNatClampNeg 8) 0) (Int32.toNatClampNeg 9) 0))), ((ma 25), .inl (y 2, 8, .inl (upd (upd (upd (upd (fun _ => 0) (Int32.toNatClampNeg 4) 0) (Int32.toNatClampNeg 5) 0) (Int32.toNatClampNeg 6) 0) (Int32.toNatClampNeg 7) 0))), ((ma 28), .inl (y 2, 2, .inl (upd (fun _ => 0) (Int32.toNatClampNeg 1) 0))), ((ma 45), .inl (y 3, 8, .inr (.inl (vp_updL (vp_updL (vp_updL (vp_updL (vp_updL (vp_updL (vp_updL (vp_updL fa (Int32.toNatClampNeg 0) 0) (Int32.toNatClampNeg 1) 0) (Int32.toNatClampNeg 2) 0) (Int32.toNatClampNeg 3) 0) (Int32.toNatClampNeg 4) 0) (Int32.toNatClampNeg 5) 0) (Int32.toNatClampNeg 6) 0) (Int32.toNatClampNeg 7) 0)))), ((ma 46), .inl (y 3, 8, .inr (.inl (vp_updL (vp_updL (vp_updL (vp_updL (vp_updL (vp_updL (vp_updL (vp_updL fb (Int32.toNatClampNeg 0) 1) (Int32.toNatClampNeg 1) 1) (Int32.toNatClampNeg 2) 1) (Int32.toNatClampNeg 3) 1) (Int32.toNatClampNeg 4) 1) (Int32.toNatClampNeg 5) 1) (Int32.toNatClampNeg 6) 1) (Int32.toNatClampNeg 7) 1))))] := hD
                                                            refine lv_aload_n hx hb dX12_program_280 rfl (lv_at hl 1 rfl) ?_
                                                            refine va_get (D := D) (ci := 11) (v := .ref (ma 24)) (C := RX12) (T := TX12) (N := 85) hx hb hts inX12 hown hK hP 0 rfl rfl 24 (by decide) fl60 (fun _ h9 => h9) rfl dX12_program_281 ?_
                                                            refine lv_bipush (v := 8) hx hb dX12_program_284 (by decide) ?_
                                                            refine va_iald hx hb hK hP 1 2 rfl rfl (x_in (by decide) (by decide)) dX12_program_286 ?_
                                                            refine lv_topi (fun i_49 ei_49 => ?_)
                                                            obtain rfl : i_49 = 0 := ei_49.trans (by rfl)
                                                            exact x_iret (v := 0) (u := ((upd (upd (upd (upd (upd (upd (upd (upd (upd (upd (fun _ => 0) (Int32.toNatClampNeg 0) 0) (Int32.toNatClampNeg 1) 0) (Int32.toNatClampNeg 2) 0) (Int32.toNatClampNeg 3) 0) (Int32.toNatClampNeg 4) 0) (Int32.toNatClampNeg 5) 0) (Int32.toNatClampNeg 6) 0) (Int32.toNatClampNeg 7) 0) (Int32.toNatClampNeg 8) 0) (Int32.toNatClampNeg 9) 0), (upd (upd (upd (upd (fun _ => 0) (Int32.toNatClampNeg 4) 0) (Int32.toNatClampNeg 5) 0) (Int32.toNatClampNeg 6) 0) (Int32.toNatClampNeg 7) 0), (upd (fun _ => 0) (Int32.toNatClampNeg 1) 0), (vp_updL (vp_updL (vp_updL (vp_updL (vp_updL (vp_updL (vp_updL (vp_updL fa (Int32.toNatClampNeg 0) 0) (Int32.toNatClampNeg 1) 0) (Int32.toNatClampNeg 2) 0) (Int32.toNatClampNeg 3) 0) (Int32.toNatClampNeg 4) 0) (Int32.toNatClampNeg 5) 0) (Int32.toNatClampNeg 6) 0) (Int32.toNatClampNeg 7) 0), (vp_updL (vp_updL (vp_updL (vp_updL (vp_updL (vp_updL (vp_updL (vp_updL fb (Int32.toNatClampNeg 0) 1) (Int32.toNatClampNeg 1) 1) (Int32.toNatClampNeg 2) 1) (Int32.toNatClampNeg 3) 1) (Int32.toNatClampNeg 4) 1) (Int32.toNatClampNeg 5) 1) (Int32.toNatClampNeg 6) 1) (Int32.toNatClampNeg 7) 1))) hx hb hr rfl hP hD hK hS [0, 1, 2, 3, 4, 5] rfl (by decide) dX12_program_287 hlocks hQ
                                                          · exact absurd (by decide) c_48
                                        · exact absurd (by decide) c_39
                                      · exact absurd (by decide) c_38
                                    · exact absurd (by decide) c_36
                          · exact absurd (by decide) c_23
              · exact absurd (by decide) c_7
            · exact absurd (by decide) c_6

def v_m_lays0 : List Cond := .code yX12_lays cX12_lays 10 none :: ([.fieldLink RX12 139 "SlopeRunnerModel" "laid" "[I", .fieldLink RX12 124 "SlopeRunnerModel" "valueAbove" "[J", .fieldLink RX12 127 "SlopeRunnerModel" "valueBelow" "[J", .fieldLink RX12 130 "SlopeRunnerModel" "op" "[I", .fieldLink RX12 133 "SlopeRunnerModel" "first" "[I", .fieldLink RX12 136 "SlopeRunnerModel" "second" "[I"] ++ wsX120)
set_option maxHeartbeats 4000000 in
set_option maxRecDepth 100000 in
theorem m_lays0 (l : Launch) (D : va_G) (y : Nat → ClassId) (sz : Nat) (h0 : Nat) (ma : Nat → Nat) (mi : Nat → Int32) (mj : Nat → Int64) (va vb : Int64) (fl f2 f3 f4 : Nat → Int32) (f0 f1 : Nat → Int64) (hl0 : fl (Int32.toNatClampNeg 0) = 0) : Met l yX12_lays v_m_lays0 ({ frames := 0, cells := 0, slots := 0, locals := 0 } : Room) (va_Pc [.ref h0, .int 0, .long va, .long vb, .int 0, .int (-1), .int (-1)] (xPre D (xT y) [(h0, .inr (11, mF ma mi mj)), ((ma 62), .inl (y 2, 2, .inl fl)), ((ma 57), .inl (y 3, 3520, .inr (.inl f0))), ((ma 58), .inl (y 3, 3520, .inr (.inl f1))), ((ma 59), .inl (y 2, 3520, .inl f2)), ((ma 60), .inl (y 2, 3520, .inl f3)), ((ma 61), .inl (y 2, 3520, .inl f4))] sz)) (va_Qv (fun (_ : (Nat → Int32) × (Nat → Int64) × (Nat → Int64) × (Nat → Int32) × (Nat → Int32) × (Nat → Int32)) => True) (fun (u : (Nat → Int32) × (Nat → Int64) × (Nat → Int64) × (Nat → Int32) × (Nat → Int32) × (Nat → Int32)) => xB D (xT y) (va_A [(h0, .inr (11, mF ma mi mj)), ((ma 62), .inl (y 2, 2, .inl fl)), ((ma 57), .inl (y 3, 3520, .inr (.inl f0))), ((ma 58), .inl (y 3, 3520, .inr (.inl f1))), ((ma 59), .inl (y 2, 3520, .inl f2)), ((ma 60), .inl (y 2, 3520, .inl f3)), ((ma 61), .inl (y 2, 3520, .inl f4))] sz) [(h0, .inr (11, mF ma mi mj)), ((ma 62), .inl (y 2, 2, .inl u.1)), ((ma 57), .inl (y 3, 3520, .inr (.inl u.2.1))), ((ma 58), .inl (y 3, 3520, .inr (.inl u.2.2.1))), ((ma 59), .inl (y 2, 3520, .inl u.2.2.2.1)), ((ma 60), .inl (y 2, 3520, .inl u.2.2.2.2.1)), ((ma 61), .inl (y 2, 3520, .inl u.2.2.2.2.2))]) (va_A [(h0, .inr (11, mF ma mi mj)), ((ma 62), .inl (y 2, 2, .inl fl)), ((ma 57), .inl (y 3, 3520, .inr (.inl f0))), ((ma 58), .inl (y 3, 3520, .inr (.inl f1))), ((ma 59), .inl (y 2, 3520, .inl f2)), ((ma 60), .inl (y 2, 3520, .inl f3)), ((ma 61), .inl (y 2, 3520, .inl f4))] sz)) 0 0 (va_A [(h0, .inr (11, mF ma mi mj)), ((ma 62), .inl (y 2, 2, .inl fl)), ((ma 57), .inl (y 3, 3520, .inr (.inl f0))), ((ma 58), .inl (y 3, 3520, .inr (.inl f1))), ((ma 59), .inl (y 2, 3520, .inl f2)), ((ma 60), .inl (y 2, 3520, .inl f3)), ((ma 61), .inl (y 2, 3520, .inl f4))] sz) := by
  refine x_metv (cc := cX12_lays) (maxL := 10) (by decide) rfl (Nat.le_of_ble_eq_true rfl) ?_
  intro p e s m below meth c A H locs Q hx hb hml hown hts hr hlocks hmn hA hP hK hD hS ls hl hQ
  have hl : lv_has ls 10 [(0, .ref h0), (1, .int 0), (2, .long va), (4, .long vb), (6, .int 0), (7, .int (-1)), (8, .int (-1))] := hl
  have fl139 := hts (.fieldLink RX12 139 "SlopeRunnerModel" "laid" "[I") (by decide +kernel)
  have inX12 : ∀ w ∈ wsX120, w ∈ v_m_lays0 := (fun w h => List.mem_cons_of_mem _ (List.mem_append_right _ h))
  have fl124 := hts (.fieldLink RX12 124 "SlopeRunnerModel" "valueAbove" "[J") (by decide +kernel)
  have fl127 := hts (.fieldLink RX12 127 "SlopeRunnerModel" "valueBelow" "[J") (by decide +kernel)
  have fl130 := hts (.fieldLink RX12 130 "SlopeRunnerModel" "op" "[I") (by decide +kernel)
  have fl133 := hts (.fieldLink RX12 133 "SlopeRunnerModel" "first" "[I") (by decide +kernel)
  have fl136 := hts (.fieldLink RX12 136 "SlopeRunnerModel" "second" "[I") (by decide +kernel)
  refine lv_sipush (v := 1760) hx hb dX12_lays_0 (by decide) ?_
  refine lv_iload_n hx hb dX12_lays_3 rfl (lv_at hl 1 rfl) ?_
  refine lv_imul hx hb dX12_lays_4 ?_
  refine lv_topi (fun i_1 ei_1 => ?_)
  obtain rfl : i_1 = 0 := ei_1.trans (by decide)
  refine lv_aload_n hx hb dX12_lays_5 rfl (lv_at hl 0 rfl) ?_
  refine va_get (D := D) (ci := 11) (v := .ref (ma 62)) (C := RX12) (T := TX12) (N := 85) hx hb hts inX12 hown hK hP 0 rfl rfl 62 (by decide) fl139 (fun _ h9 => h9) rfl dX12_lays_6 ?_
  refine lv_iload_n hx hb dX12_lays_9 rfl (lv_at hl 1 rfl) ?_
  refine va_iald hx hb hK hP 1 2 rfl rfl (x_in (by decide) (by decide)) dX12_lays_10 ?_
  refine lv_topi (fun i_2 ei_2 => ?_)
  obtain rfl : i_2 = 0 := ei_2.trans hl0
  refine lv_iadd hx hb dX12_lays_11 ?_
  refine lv_topi (fun i_3 ei_3 => ?_)
  obtain rfl : i_3 = 0 := ei_3.trans (by decide)
  refine lv_istore (lv' := [(9, .int 0), (0, .ref h0), (1, .int 0), (2, .long va), (4, .long vb), (6, .int 0), (7, .int (-1)), (8, .int (-1))]) hx hb dX12_lays_12 hl (by decide) rfl (fun ls hl => ?_)
  refine lv_aload_n hx hb dX12_lays_14 rfl (lv_at hl 1 rfl) ?_
  refine va_get (D := D) (ci := 11) (v := .ref (ma 57)) (C := RX12) (T := TX12) (N := 85) hx hb hts inX12 hown hK hP 0 rfl rfl 57 (by decide) fl124 (fun _ h9 => h9) rfl dX12_lays_15 ?_
  refine lv_iload hx hb dX12_lays_18 (lv_at hl 0 rfl) ?_
  refine lv_lload_n hx hb dX12_lays_20 rfl (lv_at hl 3 rfl) ?_
  refine va_last hx hb hK hP hD hS 2 3 rfl rfl (x_in (by decide) (by decide)) dX12_lays_21 (fun H locs hP hD hS => ?_)
  have hP : va_P D vwCl [(h0, .inr (11, mF ma mi mj)), ((ma 62), .inl (y 2, 2, .inl fl)), ((ma 57), .inl (y 3, 3520, .inr (.inl (vp_updL f0 (Int32.toNatClampNeg 0) va)))), ((ma 58), .inl (y 3, 3520, .inr (.inl f1))), ((ma 59), .inl (y 2, 3520, .inl f2)), ((ma 60), .inl (y 2, 3520, .inl f3)), ((ma 61), .inl (y 2, 3520, .inl f4))] H := hP
  have hD : va_D A [(h0, .inr (11, mF ma mi mj)), ((ma 62), .inl (y 2, 2, .inl fl)), ((ma 57), .inl (y 3, 3520, .inr (.inl (vp_updL f0 (Int32.toNatClampNeg 0) va)))), ((ma 58), .inl (y 3, 3520, .inr (.inl f1))), ((ma 59), .inl (y 2, 3520, .inl f2)), ((ma 60), .inl (y 2, 3520, .inl f3)), ((ma 61), .inl (y 2, 3520, .inl f4))] := hD
  refine lv_aload_n hx hb dX12_lays_22 rfl (lv_at hl 1 rfl) ?_
  refine va_get (D := D) (ci := 11) (v := .ref (ma 58)) (C := RX12) (T := TX12) (N := 85) hx hb hts inX12 hown hK hP 0 rfl rfl 58 (by decide) fl127 (fun _ h9 => h9) rfl dX12_lays_23 ?_
  refine lv_iload hx hb dX12_lays_26 (lv_at hl 0 rfl) ?_
  refine lv_lload hx hb dX12_lays_28 (lv_at hl 4 rfl) ?_
  refine va_last hx hb hK hP hD hS 3 3 rfl rfl (x_in (by decide) (by decide)) dX12_lays_30 (fun H locs hP hD hS => ?_)
  have hP : va_P D vwCl [(h0, .inr (11, mF ma mi mj)), ((ma 62), .inl (y 2, 2, .inl fl)), ((ma 57), .inl (y 3, 3520, .inr (.inl (vp_updL f0 (Int32.toNatClampNeg 0) va)))), ((ma 58), .inl (y 3, 3520, .inr (.inl (vp_updL f1 (Int32.toNatClampNeg 0) vb)))), ((ma 59), .inl (y 2, 3520, .inl f2)), ((ma 60), .inl (y 2, 3520, .inl f3)), ((ma 61), .inl (y 2, 3520, .inl f4))] H := hP
  have hD : va_D A [(h0, .inr (11, mF ma mi mj)), ((ma 62), .inl (y 2, 2, .inl fl)), ((ma 57), .inl (y 3, 3520, .inr (.inl (vp_updL f0 (Int32.toNatClampNeg 0) va)))), ((ma 58), .inl (y 3, 3520, .inr (.inl (vp_updL f1 (Int32.toNatClampNeg 0) vb)))), ((ma 59), .inl (y 2, 3520, .inl f2)), ((ma 60), .inl (y 2, 3520, .inl f3)), ((ma 61), .inl (y 2, 3520, .inl f4))] := hD
  refine lv_aload_n hx hb dX12_lays_31 rfl (lv_at hl 1 rfl) ?_
  refine va_get (D := D) (ci := 11) (v := .ref (ma 59)) (C := RX12) (T := TX12) (N := 85) hx hb hts inX12 hown hK hP 0 rfl rfl 59 (by decide) fl130 (fun _ h9 => h9) rfl dX12_lays_32 ?_
  refine lv_iload hx hb dX12_lays_35 (lv_at hl 0 rfl) ?_
  refine lv_iload hx hb dX12_lays_37 (lv_at hl 5 rfl) ?_
  refine va_iast hx hb hK hP hD hS 4 2 rfl rfl (x_in (by decide) (by decide)) dX12_lays_39 (fun H locs hP hD hS => ?_)
  have hP : va_P D vwCl [(h0, .inr (11, mF ma mi mj)), ((ma 62), .inl (y 2, 2, .inl fl)), ((ma 57), .inl (y 3, 3520, .inr (.inl (vp_updL f0 (Int32.toNatClampNeg 0) va)))), ((ma 58), .inl (y 3, 3520, .inr (.inl (vp_updL f1 (Int32.toNatClampNeg 0) vb)))), ((ma 59), .inl (y 2, 3520, .inl (upd f2 (Int32.toNatClampNeg 0) 0))), ((ma 60), .inl (y 2, 3520, .inl f3)), ((ma 61), .inl (y 2, 3520, .inl f4))] H := hP
  have hD : va_D A [(h0, .inr (11, mF ma mi mj)), ((ma 62), .inl (y 2, 2, .inl fl)), ((ma 57), .inl (y 3, 3520, .inr (.inl (vp_updL f0 (Int32.toNatClampNeg 0) va)))), ((ma 58), .inl (y 3, 3520, .inr (.inl (vp_updL f1 (Int32.toNatClampNeg 0) vb)))), ((ma 59), .inl (y 2, 3520, .inl (upd f2 (Int32.toNatClampNeg 0) 0))), ((ma 60), .inl (y 2, 3520, .inl f3)), ((ma 61), .inl (y 2, 3520, .inl f4))] := hD
  refine lv_aload_n hx hb dX12_lays_40 rfl (lv_at hl 1 rfl) ?_
  refine va_get (D := D) (ci := 11) (v := .ref (ma 60)) (C := RX12) (T := TX12) (N := 85) hx hb hts inX12 hown hK hP 0 rfl rfl 60 (by decide) fl133 (fun _ h9 => h9) rfl dX12_lays_41 ?_
  refine lv_iload hx hb dX12_lays_44 (lv_at hl 0 rfl) ?_
  refine lv_iload hx hb dX12_lays_46 (lv_at hl 6 rfl) ?_
  refine va_iast hx hb hK hP hD hS 5 2 rfl rfl (x_in (by decide) (by decide)) dX12_lays_48 (fun H locs hP hD hS => ?_)
  have hP : va_P D vwCl [(h0, .inr (11, mF ma mi mj)), ((ma 62), .inl (y 2, 2, .inl fl)), ((ma 57), .inl (y 3, 3520, .inr (.inl (vp_updL f0 (Int32.toNatClampNeg 0) va)))), ((ma 58), .inl (y 3, 3520, .inr (.inl (vp_updL f1 (Int32.toNatClampNeg 0) vb)))), ((ma 59), .inl (y 2, 3520, .inl (upd f2 (Int32.toNatClampNeg 0) 0))), ((ma 60), .inl (y 2, 3520, .inl (upd f3 (Int32.toNatClampNeg 0) (-1)))), ((ma 61), .inl (y 2, 3520, .inl f4))] H := hP
  have hD : va_D A [(h0, .inr (11, mF ma mi mj)), ((ma 62), .inl (y 2, 2, .inl fl)), ((ma 57), .inl (y 3, 3520, .inr (.inl (vp_updL f0 (Int32.toNatClampNeg 0) va)))), ((ma 58), .inl (y 3, 3520, .inr (.inl (vp_updL f1 (Int32.toNatClampNeg 0) vb)))), ((ma 59), .inl (y 2, 3520, .inl (upd f2 (Int32.toNatClampNeg 0) 0))), ((ma 60), .inl (y 2, 3520, .inl (upd f3 (Int32.toNatClampNeg 0) (-1)))), ((ma 61), .inl (y 2, 3520, .inl f4))] := hD
  refine lv_aload_n hx hb dX12_lays_49 rfl (lv_at hl 1 rfl) ?_
  refine va_get (D := D) (ci := 11) (v := .ref (ma 61)) (C := RX12) (T := TX12) (N := 85) hx hb hts inX12 hown hK hP 0 rfl rfl 61 (by decide) fl136 (fun _ h9 => h9) rfl dX12_lays_50 ?_
  refine lv_iload hx hb dX12_lays_53 (lv_at hl 0 rfl) ?_
  refine lv_iload hx hb dX12_lays_55 (lv_at hl 7 rfl) ?_
  refine va_iast hx hb hK hP hD hS 6 2 rfl rfl (x_in (by decide) (by decide)) dX12_lays_57 (fun H locs hP hD hS => ?_)
  have hP : va_P D vwCl [(h0, .inr (11, mF ma mi mj)), ((ma 62), .inl (y 2, 2, .inl fl)), ((ma 57), .inl (y 3, 3520, .inr (.inl (vp_updL f0 (Int32.toNatClampNeg 0) va)))), ((ma 58), .inl (y 3, 3520, .inr (.inl (vp_updL f1 (Int32.toNatClampNeg 0) vb)))), ((ma 59), .inl (y 2, 3520, .inl (upd f2 (Int32.toNatClampNeg 0) 0))), ((ma 60), .inl (y 2, 3520, .inl (upd f3 (Int32.toNatClampNeg 0) (-1)))), ((ma 61), .inl (y 2, 3520, .inl (upd f4 (Int32.toNatClampNeg 0) (-1))))] H := hP
  have hD : va_D A [(h0, .inr (11, mF ma mi mj)), ((ma 62), .inl (y 2, 2, .inl fl)), ((ma 57), .inl (y 3, 3520, .inr (.inl (vp_updL f0 (Int32.toNatClampNeg 0) va)))), ((ma 58), .inl (y 3, 3520, .inr (.inl (vp_updL f1 (Int32.toNatClampNeg 0) vb)))), ((ma 59), .inl (y 2, 3520, .inl (upd f2 (Int32.toNatClampNeg 0) 0))), ((ma 60), .inl (y 2, 3520, .inl (upd f3 (Int32.toNatClampNeg 0) (-1)))), ((ma 61), .inl (y 2, 3520, .inl (upd f4 (Int32.toNatClampNeg 0) (-1))))] := hD
  refine lv_aload_n hx hb dX12_lays_58 rfl (lv_at hl 1 rfl) ?_
  refine va_get (D := D) (ci := 11) (v := .ref (ma 62)) (C := RX12) (T := TX12) (N := 85) hx hb hts inX12 hown hK hP 0 rfl rfl 62 (by decide) fl139 (fun _ h9 => h9) rfl dX12_lays_59 ?_
  refine lv_iload_n hx hb dX12_lays_62 rfl (lv_at hl 2 rfl) ?_
  refine lv_dup2_11 hx hb dX12_lays_63 rfl rfl ?_
  refine va_iald hx hb hK hP 1 2 rfl rfl (x_in (by decide) (by decide)) dX12_lays_64 ?_
  refine lv_topi (fun i_4 ei_4 => ?_)
  refine lv_iconst (v := 1) hx hb dX12_lays_65 (by decide) ?_
  refine lv_iadd hx hb dX12_lays_66 ?_
  refine lv_topi (fun i_5 ei_5 => ?_)
  refine va_iast hx hb hK hP hD hS 1 2 rfl rfl (x_in (by decide) (by decide)) dX12_lays_67 (fun H locs hP hD hS => ?_)
  have hP : va_P D vwCl [(h0, .inr (11, mF ma mi mj)), ((ma 62), .inl (y 2, 2, .inl (upd fl (Int32.toNatClampNeg 0) i_5))), ((ma 57), .inl (y 3, 3520, .inr (.inl (vp_updL f0 (Int32.toNatClampNeg 0) va)))), ((ma 58), .inl (y 3, 3520, .inr (.inl (vp_updL f1 (Int32.toNatClampNeg 0) vb)))), ((ma 59), .inl (y 2, 3520, .inl (upd f2 (Int32.toNatClampNeg 0) 0))), ((ma 60), .inl (y 2, 3520, .inl (upd f3 (Int32.toNatClampNeg 0) (-1)))), ((ma 61), .inl (y 2, 3520, .inl (upd f4 (Int32.toNatClampNeg 0) (-1))))] H := hP
  have hD : va_D A [(h0, .inr (11, mF ma mi mj)), ((ma 62), .inl (y 2, 2, .inl (upd fl (Int32.toNatClampNeg 0) i_5))), ((ma 57), .inl (y 3, 3520, .inr (.inl (vp_updL f0 (Int32.toNatClampNeg 0) va)))), ((ma 58), .inl (y 3, 3520, .inr (.inl (vp_updL f1 (Int32.toNatClampNeg 0) vb)))), ((ma 59), .inl (y 2, 3520, .inl (upd f2 (Int32.toNatClampNeg 0) 0))), ((ma 60), .inl (y 2, 3520, .inl (upd f3 (Int32.toNatClampNeg 0) (-1)))), ((ma 61), .inl (y 2, 3520, .inl (upd f4 (Int32.toNatClampNeg 0) (-1))))] := hD
  exact x_vret (u := ((upd fl (Int32.toNatClampNeg 0) i_5), (vp_updL f0 (Int32.toNatClampNeg 0) va), (vp_updL f1 (Int32.toNatClampNeg 0) vb), (upd f2 (Int32.toNatClampNeg 0) 0), (upd f3 (Int32.toNatClampNeg 0) (-1)), (upd f4 (Int32.toNatClampNeg 0) (-1)))) hx hb hr trivial hP hD hK hS [0, 1, 2, 3, 4, 5, 6] rfl (by decide) dX12_lays_68 hlocks hQ

def v_m_goes0 : List Cond := .code yX12_goes cX12_goes 4 none :: ([.fieldLink RX12 60 "SlopeRunnerModel" "has" "[I", .fieldLink RX12 139 "SlopeRunnerModel" "laid" "[I", .fieldLink RX12 142 "SlopeRunnerModel" "steps" "[I", .fieldLink RX12 145 "SlopeRunnerModel" "results" "[I", .fieldLink RX12 151 "SlopeRunnerModel" "edges" "[I", .fieldLink RX12 154 "SlopeRunnerModel" "state" "[I", .fieldLink RX12 421 "SlopeRunnerModel" "piled" "I", .fieldLink RX12 412 "SlopeRunnerModel" "hasNear" "Z", .fieldLink RX12 72 "SlopeRunnerModel" "codeMany" "[I", .fieldLink RX12 157 "SlopeRunnerModel" "held" "[I"] ++ ((wsV RX12 433 RX12 yX12_lays v_m_lays0) ++ wsX120))
theorem g_m_goes0_0 : GoodIn v_m_goes0 (wsV RX12 433 RX12 yX12_lays v_m_lays0) := goodIn_sub (fun w h => List.mem_cons_of_mem _ (List.mem_append_right _ (List.mem_append_left _ h))) (by decide +kernel)
set_option maxHeartbeats 4000000 in
set_option maxRecDepth 100000 in
theorem m_goes0 (l : Launch) (D : va_G) (y : Nat → ClassId) (sz : Nat) (h0 : Nat) (ma : Nat → Nat) (mi : Nat → Int32) (mj : Nat → Int64) (f2 f3 f4 fh : Nat → Int32) (f0 f1 : Nat → Int64) : Met l yX12_goes v_m_goes0 ({ frames := 1, cells := 0, slots := 0, locals := 29 } : Room) (va_Pc [.ref h0, .int 0] (xPre D (xT y) [(h0, .inr (11, mF ma mi mj)), ((ma 24), .inl (y 2, 10, .inl (fun _ => 0))), ((ma 62), .inl (y 2, 2, .inl (fun _ => 0))), ((ma 63), .inl (y 2, 2, .inl (fun _ => 0))), ((ma 64), .inl (y 2, 2, .inl (fun _ => 0))), ((ma 66), .inl (y 2, 2, .inl (fun _ => 0))), ((ma 67), .inl (y 2, 2, .inl (fun _ => 0))), ((ma 28), .inl (y 2, 2, .inl (fun _ => 0))), ((ma 57), .inl (y 3, 3520, .inr (.inl f0))), ((ma 58), .inl (y 3, 3520, .inr (.inl f1))), ((ma 59), .inl (y 2, 3520, .inl f2)), ((ma 60), .inl (y 2, 3520, .inl f3)), ((ma 61), .inl (y 2, 3520, .inl f4)), ((ma 71), .inl (y 2, 84, .inl fh))] sz)) (va_Qv (fun (_ : (Nat → Int32) × (Nat → Int64) × (Nat → Int64) × (Nat → Int32) × (Nat → Int32) × (Nat → Int32) × (Nat → Int32)) => True) (fun (u : (Nat → Int32) × (Nat → Int64) × (Nat → Int64) × (Nat → Int32) × (Nat → Int32) × (Nat → Int32) × (Nat → Int32)) => xB D (xT y) (va_A [(h0, .inr (11, mF ma mi mj)), ((ma 24), .inl (y 2, 10, .inl (fun _ => 0))), ((ma 62), .inl (y 2, 2, .inl (fun _ => 0))), ((ma 63), .inl (y 2, 2, .inl (fun _ => 0))), ((ma 64), .inl (y 2, 2, .inl (fun _ => 0))), ((ma 66), .inl (y 2, 2, .inl (fun _ => 0))), ((ma 67), .inl (y 2, 2, .inl (fun _ => 0))), ((ma 28), .inl (y 2, 2, .inl (fun _ => 0))), ((ma 57), .inl (y 3, 3520, .inr (.inl f0))), ((ma 58), .inl (y 3, 3520, .inr (.inl f1))), ((ma 59), .inl (y 2, 3520, .inl f2)), ((ma 60), .inl (y 2, 3520, .inl f3)), ((ma 61), .inl (y 2, 3520, .inl f4)), ((ma 71), .inl (y 2, 84, .inl fh))] sz) [(h0, .inr (11, mF ma (upd (upd mi 68 0) 73 0) mj)), ((ma 24), .inl (y 2, 10, .inl (fun _ => 0))), ((ma 62), .inl (y 2, 2, .inl u.1)), ((ma 63), .inl (y 2, 2, .inl (upd (fun _ => 0) (Int32.toNatClampNeg 0) 0))), ((ma 64), .inl (y 2, 2, .inl (upd (fun _ => 0) (Int32.toNatClampNeg 0) 0))), ((ma 66), .inl (y 2, 2, .inl (upd (fun _ => 0) (Int32.toNatClampNeg 0) 0))), ((ma 67), .inl (y 2, 2, .inl (upd (fun _ => 0) (Int32.toNatClampNeg 0) 0))), ((ma 28), .inl (y 2, 2, .inl (fun _ => 0))), ((ma 57), .inl (y 3, 3520, .inr (.inl u.2.1))), ((ma 58), .inl (y 3, 3520, .inr (.inl u.2.2.1))), ((ma 59), .inl (y 2, 3520, .inl u.2.2.2.1)), ((ma 60), .inl (y 2, 3520, .inl u.2.2.2.2.1)), ((ma 61), .inl (y 2, 3520, .inl u.2.2.2.2.2.1)), ((ma 71), .inl (y 2, 84, .inl u.2.2.2.2.2.2))]) (va_A [(h0, .inr (11, mF ma mi mj)), ((ma 24), .inl (y 2, 10, .inl (fun _ => 0))), ((ma 62), .inl (y 2, 2, .inl (fun _ => 0))), ((ma 63), .inl (y 2, 2, .inl (fun _ => 0))), ((ma 64), .inl (y 2, 2, .inl (fun _ => 0))), ((ma 66), .inl (y 2, 2, .inl (fun _ => 0))), ((ma 67), .inl (y 2, 2, .inl (fun _ => 0))), ((ma 28), .inl (y 2, 2, .inl (fun _ => 0))), ((ma 57), .inl (y 3, 3520, .inr (.inl f0))), ((ma 58), .inl (y 3, 3520, .inr (.inl f1))), ((ma 59), .inl (y 2, 3520, .inl f2)), ((ma 60), .inl (y 2, 3520, .inl f3)), ((ma 61), .inl (y 2, 3520, .inl f4)), ((ma 71), .inl (y 2, 84, .inl fh))] sz)) 0 0 (va_A [(h0, .inr (11, mF ma mi mj)), ((ma 24), .inl (y 2, 10, .inl (fun _ => 0))), ((ma 62), .inl (y 2, 2, .inl (fun _ => 0))), ((ma 63), .inl (y 2, 2, .inl (fun _ => 0))), ((ma 64), .inl (y 2, 2, .inl (fun _ => 0))), ((ma 66), .inl (y 2, 2, .inl (fun _ => 0))), ((ma 67), .inl (y 2, 2, .inl (fun _ => 0))), ((ma 28), .inl (y 2, 2, .inl (fun _ => 0))), ((ma 57), .inl (y 3, 3520, .inr (.inl f0))), ((ma 58), .inl (y 3, 3520, .inr (.inl f1))), ((ma 59), .inl (y 2, 3520, .inl f2)), ((ma 60), .inl (y 2, 3520, .inl f3)), ((ma 61), .inl (y 2, 3520, .inl f4)), ((ma 71), .inl (y 2, 84, .inl fh))] sz) := by
  refine x_metv (cc := cX12_goes) (maxL := 4) (by decide) rfl (Nat.le_of_ble_eq_true rfl) ?_
  intro p e s m below meth c A H locs Q hx hb hml hown hts hr hlocks hmn hA hP hK hD hS ls hl hQ
  have hl : lv_has ls 4 [(0, .ref h0), (1, .int 0)] := hl
  have fl60 := hts (.fieldLink RX12 60 "SlopeRunnerModel" "has" "[I") (by decide +kernel)
  have inX12 : ∀ w ∈ wsX120, w ∈ v_m_goes0 := (fun w h => List.mem_cons_of_mem _ (List.mem_append_right _ (List.mem_append_right _ h)))
  have fl139 := hts (.fieldLink RX12 139 "SlopeRunnerModel" "laid" "[I") (by decide +kernel)
  have fl142 := hts (.fieldLink RX12 142 "SlopeRunnerModel" "steps" "[I") (by decide +kernel)
  have fl145 := hts (.fieldLink RX12 145 "SlopeRunnerModel" "results" "[I") (by decide +kernel)
  have fl151 := hts (.fieldLink RX12 151 "SlopeRunnerModel" "edges" "[I") (by decide +kernel)
  have fl154 := hts (.fieldLink RX12 154 "SlopeRunnerModel" "state" "[I") (by decide +kernel)
  have fl421 := hts (.fieldLink RX12 421 "SlopeRunnerModel" "piled" "I") (by decide +kernel)
  have fl412 := hts (.fieldLink RX12 412 "SlopeRunnerModel" "hasNear" "Z") (by decide +kernel)
  have fl72 := hts (.fieldLink RX12 72 "SlopeRunnerModel" "codeMany" "[I") (by decide +kernel)
  have fl157 := hts (.fieldLink RX12 157 "SlopeRunnerModel" "held" "[I") (by decide +kernel)
  refine lv_aload_n hx hb dX12_goes_0 rfl (lv_at hl 0 rfl) ?_
  refine va_get (D := D) (ci := 11) (v := .ref (ma 24)) (C := RX12) (T := TX12) (N := 85) hx hb hts inX12 hown hK hP 0 rfl rfl 24 (by decide) fl60 (fun _ h9 => h9) rfl dX12_goes_1 ?_
  refine lv_iconst (v := 5) hx hb dX12_goes_4 (by decide) ?_
  refine va_iald hx hb hK hP 1 2 rfl rfl (x_in (by decide) (by decide)) dX12_goes_5 ?_
  refine lv_topi (fun i_1 ei_1 => ?_)
  obtain rfl : i_1 = 0 := ei_1.trans (by rfl)
  refine lv_istore_n (lv' := [(2, .int 0), (0, .ref h0), (1, .int 0)]) hx hb dX12_goes_6 rfl hl (by decide) rfl (fun ls hl => ?_)
  refine lv_aload_n hx hb dX12_goes_7 rfl (lv_at hl 1 rfl) ?_
  refine va_get (D := D) (ci := 11) (v := .ref (ma 62)) (C := RX12) (T := TX12) (N := 85) hx hb hts inX12 hown hK hP 0 rfl rfl 62 (by decide) fl139 (fun _ h9 => h9) rfl dX12_goes_8 ?_
  refine lv_iload_n hx hb dX12_goes_11 rfl (lv_at hl 2 rfl) ?_
  refine lv_iconst (v := 0) hx hb dX12_goes_12 (by decide) ?_
  refine va_iast hx hb hK hP hD hS 2 2 rfl rfl (x_in (by decide) (by decide)) dX12_goes_13 (fun H locs hP hD hS => ?_)
  have hP : va_P D vwCl [(h0, .inr (11, mF ma mi mj)), ((ma 24), .inl (y 2, 10, .inl (fun _ => 0))), ((ma 62), .inl (y 2, 2, .inl (upd (fun _ => 0) (Int32.toNatClampNeg 0) 0))), ((ma 63), .inl (y 2, 2, .inl (fun _ => 0))), ((ma 64), .inl (y 2, 2, .inl (fun _ => 0))), ((ma 66), .inl (y 2, 2, .inl (fun _ => 0))), ((ma 67), .inl (y 2, 2, .inl (fun _ => 0))), ((ma 28), .inl (y 2, 2, .inl (fun _ => 0))), ((ma 57), .inl (y 3, 3520, .inr (.inl f0))), ((ma 58), .inl (y 3, 3520, .inr (.inl f1))), ((ma 59), .inl (y 2, 3520, .inl f2)), ((ma 60), .inl (y 2, 3520, .inl f3)), ((ma 61), .inl (y 2, 3520, .inl f4)), ((ma 71), .inl (y 2, 84, .inl fh))] H := hP
  have hD : va_D A [(h0, .inr (11, mF ma mi mj)), ((ma 24), .inl (y 2, 10, .inl (fun _ => 0))), ((ma 62), .inl (y 2, 2, .inl (upd (fun _ => 0) (Int32.toNatClampNeg 0) 0))), ((ma 63), .inl (y 2, 2, .inl (fun _ => 0))), ((ma 64), .inl (y 2, 2, .inl (fun _ => 0))), ((ma 66), .inl (y 2, 2, .inl (fun _ => 0))), ((ma 67), .inl (y 2, 2, .inl (fun _ => 0))), ((ma 28), .inl (y 2, 2, .inl (fun _ => 0))), ((ma 57), .inl (y 3, 3520, .inr (.inl f0))), ((ma 58), .inl (y 3, 3520, .inr (.inl f1))), ((ma 59), .inl (y 2, 3520, .inl f2)), ((ma 60), .inl (y 2, 3520, .inl f3)), ((ma 61), .inl (y 2, 3520, .inl f4)), ((ma 71), .inl (y 2, 84, .inl fh))] := hD
  refine lv_aload_n hx hb dX12_goes_14 rfl (lv_at hl 1 rfl) ?_
  refine va_get (D := D) (ci := 11) (v := .ref (ma 63)) (C := RX12) (T := TX12) (N := 85) hx hb hts inX12 hown hK hP 0 rfl rfl 63 (by decide) fl142 (fun _ h9 => h9) rfl dX12_goes_15 ?_
  refine lv_iload_n hx hb dX12_goes_18 rfl (lv_at hl 2 rfl) ?_
  refine lv_iconst (v := 0) hx hb dX12_goes_19 (by decide) ?_
  refine va_iast hx hb hK hP hD hS 3 2 rfl rfl (x_in (by decide) (by decide)) dX12_goes_20 (fun H locs hP hD hS => ?_)
  have hP : va_P D vwCl [(h0, .inr (11, mF ma mi mj)), ((ma 24), .inl (y 2, 10, .inl (fun _ => 0))), ((ma 62), .inl (y 2, 2, .inl (upd (fun _ => 0) (Int32.toNatClampNeg 0) 0))), ((ma 63), .inl (y 2, 2, .inl (upd (fun _ => 0) (Int32.toNatClampNeg 0) 0))), ((ma 64), .inl (y 2, 2, .inl (fun _ => 0))), ((ma 66), .inl (y 2, 2, .inl (fun _ => 0))), ((ma 67), .inl (y 2, 2, .inl (fun _ => 0))), ((ma 28), .inl (y 2, 2, .inl (fun _ => 0))), ((ma 57), .inl (y 3, 3520, .inr (.inl f0))), ((ma 58), .inl (y 3, 3520, .inr (.inl f1))), ((ma 59), .inl (y 2, 3520, .inl f2)), ((ma 60), .inl (y 2, 3520, .inl f3)), ((ma 61), .inl (y 2, 3520, .inl f4)), ((ma 71), .inl (y 2, 84, .inl fh))] H := hP
  have hD : va_D A [(h0, .inr (11, mF ma mi mj)), ((ma 24), .inl (y 2, 10, .inl (fun _ => 0))), ((ma 62), .inl (y 2, 2, .inl (upd (fun _ => 0) (Int32.toNatClampNeg 0) 0))), ((ma 63), .inl (y 2, 2, .inl (upd (fun _ => 0) (Int32.toNatClampNeg 0) 0))), ((ma 64), .inl (y 2, 2, .inl (fun _ => 0))), ((ma 66), .inl (y 2, 2, .inl (fun _ => 0))), ((ma 67), .inl (y 2, 2, .inl (fun _ => 0))), ((ma 28), .inl (y 2, 2, .inl (fun _ => 0))), ((ma 57), .inl (y 3, 3520, .inr (.inl f0))), ((ma 58), .inl (y 3, 3520, .inr (.inl f1))), ((ma 59), .inl (y 2, 3520, .inl f2)), ((ma 60), .inl (y 2, 3520, .inl f3)), ((ma 61), .inl (y 2, 3520, .inl f4)), ((ma 71), .inl (y 2, 84, .inl fh))] := hD
  refine lv_aload_n hx hb dX12_goes_21 rfl (lv_at hl 1 rfl) ?_
  refine va_get (D := D) (ci := 11) (v := .ref (ma 64)) (C := RX12) (T := TX12) (N := 85) hx hb hts inX12 hown hK hP 0 rfl rfl 64 (by decide) fl145 (fun _ h9 => h9) rfl dX12_goes_22 ?_
  refine lv_iload_n hx hb dX12_goes_25 rfl (lv_at hl 2 rfl) ?_
  refine lv_iconst (v := 0) hx hb dX12_goes_26 (by decide) ?_
  refine va_iast hx hb hK hP hD hS 4 2 rfl rfl (x_in (by decide) (by decide)) dX12_goes_27 (fun H locs hP hD hS => ?_)
  have hP : va_P D vwCl [(h0, .inr (11, mF ma mi mj)), ((ma 24), .inl (y 2, 10, .inl (fun _ => 0))), ((ma 62), .inl (y 2, 2, .inl (upd (fun _ => 0) (Int32.toNatClampNeg 0) 0))), ((ma 63), .inl (y 2, 2, .inl (upd (fun _ => 0) (Int32.toNatClampNeg 0) 0))), ((ma 64), .inl (y 2, 2, .inl (upd (fun _ => 0) (Int32.toNatClampNeg 0) 0))), ((ma 66), .inl (y 2, 2, .inl (fun _ => 0))), ((ma 67), .inl (y 2, 2, .inl (fun _ => 0))), ((ma 28), .inl (y 2, 2, .inl (fun _ => 0))), ((ma 57), .inl (y 3, 3520, .inr (.inl f0))), ((ma 58), .inl (y 3, 3520, .inr (.inl f1))), ((ma 59), .inl (y 2, 3520, .inl f2)), ((ma 60), .inl (y 2, 3520, .inl f3)), ((ma 61), .inl (y 2, 3520, .inl f4)), ((ma 71), .inl (y 2, 84, .inl fh))] H := hP
  have hD : va_D A [(h0, .inr (11, mF ma mi mj)), ((ma 24), .inl (y 2, 10, .inl (fun _ => 0))), ((ma 62), .inl (y 2, 2, .inl (upd (fun _ => 0) (Int32.toNatClampNeg 0) 0))), ((ma 63), .inl (y 2, 2, .inl (upd (fun _ => 0) (Int32.toNatClampNeg 0) 0))), ((ma 64), .inl (y 2, 2, .inl (upd (fun _ => 0) (Int32.toNatClampNeg 0) 0))), ((ma 66), .inl (y 2, 2, .inl (fun _ => 0))), ((ma 67), .inl (y 2, 2, .inl (fun _ => 0))), ((ma 28), .inl (y 2, 2, .inl (fun _ => 0))), ((ma 57), .inl (y 3, 3520, .inr (.inl f0))), ((ma 58), .inl (y 3, 3520, .inr (.inl f1))), ((ma 59), .inl (y 2, 3520, .inl f2)), ((ma 60), .inl (y 2, 3520, .inl f3)), ((ma 61), .inl (y 2, 3520, .inl f4)), ((ma 71), .inl (y 2, 84, .inl fh))] := hD
  refine lv_aload_n hx hb dX12_goes_28 rfl (lv_at hl 1 rfl) ?_
  refine va_get (D := D) (ci := 11) (v := .ref (ma 66)) (C := RX12) (T := TX12) (N := 85) hx hb hts inX12 hown hK hP 0 rfl rfl 66 (by decide) fl151 (fun _ h9 => h9) rfl dX12_goes_29 ?_
  refine lv_iload_n hx hb dX12_goes_32 rfl (lv_at hl 2 rfl) ?_
  refine lv_iconst (v := 0) hx hb dX12_goes_33 (by decide) ?_
  refine va_iast hx hb hK hP hD hS 5 2 rfl rfl (x_in (by decide) (by decide)) dX12_goes_34 (fun H locs hP hD hS => ?_)
  have hP : va_P D vwCl [(h0, .inr (11, mF ma mi mj)), ((ma 24), .inl (y 2, 10, .inl (fun _ => 0))), ((ma 62), .inl (y 2, 2, .inl (upd (fun _ => 0) (Int32.toNatClampNeg 0) 0))), ((ma 63), .inl (y 2, 2, .inl (upd (fun _ => 0) (Int32.toNatClampNeg 0) 0))), ((ma 64), .inl (y 2, 2, .inl (upd (fun _ => 0) (Int32.toNatClampNeg 0) 0))), ((ma 66), .inl (y 2, 2, .inl (upd (fun _ => 0) (Int32.toNatClampNeg 0) 0))), ((ma 67), .inl (y 2, 2, .inl (fun _ => 0))), ((ma 28), .inl (y 2, 2, .inl (fun _ => 0))), ((ma 57), .inl (y 3, 3520, .inr (.inl f0))), ((ma 58), .inl (y 3, 3520, .inr (.inl f1))), ((ma 59), .inl (y 2, 3520, .inl f2)), ((ma 60), .inl (y 2, 3520, .inl f3)), ((ma 61), .inl (y 2, 3520, .inl f4)), ((ma 71), .inl (y 2, 84, .inl fh))] H := hP
  have hD : va_D A [(h0, .inr (11, mF ma mi mj)), ((ma 24), .inl (y 2, 10, .inl (fun _ => 0))), ((ma 62), .inl (y 2, 2, .inl (upd (fun _ => 0) (Int32.toNatClampNeg 0) 0))), ((ma 63), .inl (y 2, 2, .inl (upd (fun _ => 0) (Int32.toNatClampNeg 0) 0))), ((ma 64), .inl (y 2, 2, .inl (upd (fun _ => 0) (Int32.toNatClampNeg 0) 0))), ((ma 66), .inl (y 2, 2, .inl (upd (fun _ => 0) (Int32.toNatClampNeg 0) 0))), ((ma 67), .inl (y 2, 2, .inl (fun _ => 0))), ((ma 28), .inl (y 2, 2, .inl (fun _ => 0))), ((ma 57), .inl (y 3, 3520, .inr (.inl f0))), ((ma 58), .inl (y 3, 3520, .inr (.inl f1))), ((ma 59), .inl (y 2, 3520, .inl f2)), ((ma 60), .inl (y 2, 3520, .inl f3)), ((ma 61), .inl (y 2, 3520, .inl f4)), ((ma 71), .inl (y 2, 84, .inl fh))] := hD
  refine lv_aload_n hx hb dX12_goes_35 rfl (lv_at hl 1 rfl) ?_
  refine va_get (D := D) (ci := 11) (v := .ref (ma 67)) (C := RX12) (T := TX12) (N := 85) hx hb hts inX12 hown hK hP 0 rfl rfl 67 (by decide) fl154 (fun _ h9 => h9) rfl dX12_goes_36 ?_
  refine lv_iload_n hx hb dX12_goes_39 rfl (lv_at hl 2 rfl) ?_
  refine lv_iconst (v := 0) hx hb dX12_goes_40 (by decide) ?_
  refine va_iast hx hb hK hP hD hS 6 2 rfl rfl (x_in (by decide) (by decide)) dX12_goes_41 (fun H locs hP hD hS => ?_)
  have hP : va_P D vwCl [(h0, .inr (11, mF ma mi mj)), ((ma 24), .inl (y 2, 10, .inl (fun _ => 0))), ((ma 62), .inl (y 2, 2, .inl (upd (fun _ => 0) (Int32.toNatClampNeg 0) 0))), ((ma 63), .inl (y 2, 2, .inl (upd (fun _ => 0) (Int32.toNatClampNeg 0) 0))), ((ma 64), .inl (y 2, 2, .inl (upd (fun _ => 0) (Int32.toNatClampNeg 0) 0))), ((ma 66), .inl (y 2, 2, .inl (upd (fun _ => 0) (Int32.toNatClampNeg 0) 0))), ((ma 67), .inl (y 2, 2, .inl (upd (fun _ => 0) (Int32.toNatClampNeg 0) 0))), ((ma 28), .inl (y 2, 2, .inl (fun _ => 0))), ((ma 57), .inl (y 3, 3520, .inr (.inl f0))), ((ma 58), .inl (y 3, 3520, .inr (.inl f1))), ((ma 59), .inl (y 2, 3520, .inl f2)), ((ma 60), .inl (y 2, 3520, .inl f3)), ((ma 61), .inl (y 2, 3520, .inl f4)), ((ma 71), .inl (y 2, 84, .inl fh))] H := hP
  have hD : va_D A [(h0, .inr (11, mF ma mi mj)), ((ma 24), .inl (y 2, 10, .inl (fun _ => 0))), ((ma 62), .inl (y 2, 2, .inl (upd (fun _ => 0) (Int32.toNatClampNeg 0) 0))), ((ma 63), .inl (y 2, 2, .inl (upd (fun _ => 0) (Int32.toNatClampNeg 0) 0))), ((ma 64), .inl (y 2, 2, .inl (upd (fun _ => 0) (Int32.toNatClampNeg 0) 0))), ((ma 66), .inl (y 2, 2, .inl (upd (fun _ => 0) (Int32.toNatClampNeg 0) 0))), ((ma 67), .inl (y 2, 2, .inl (upd (fun _ => 0) (Int32.toNatClampNeg 0) 0))), ((ma 28), .inl (y 2, 2, .inl (fun _ => 0))), ((ma 57), .inl (y 3, 3520, .inr (.inl f0))), ((ma 58), .inl (y 3, 3520, .inr (.inl f1))), ((ma 59), .inl (y 2, 3520, .inl f2)), ((ma 60), .inl (y 2, 3520, .inl f3)), ((ma 61), .inl (y 2, 3520, .inl f4)), ((ma 71), .inl (y 2, 84, .inl fh))] := hD
  refine lv_aload_n hx hb dX12_goes_42 rfl (lv_at hl 1 rfl) ?_
  refine lv_iconst (v := 0) hx hb dX12_goes_43 (by decide) ?_
  refine va_put (D := D) (ci := 11) (v := .int 0) (ty := .int) (C := RX12) (T := TX12) (N := 85) hx hb hts inX12 tyX12 tyX12_ok nmX12 hown hK hP hD hS 0 rfl rfl 73 (by decide) fl421 (fun _ h9 => h9) rfl (by decide +kernel) rfl rfl (Nat.le_of_ble_eq_true rfl) dX12_goes_44 (fun H locs hP hD hS => ?_)
  have hP : va_P D vwCl [(h0, .inr (11, mF ma (upd mi 73 0) mj)), ((ma 24), .inl (y 2, 10, .inl (fun _ => 0))), ((ma 62), .inl (y 2, 2, .inl (upd (fun _ => 0) (Int32.toNatClampNeg 0) 0))), ((ma 63), .inl (y 2, 2, .inl (upd (fun _ => 0) (Int32.toNatClampNeg 0) 0))), ((ma 64), .inl (y 2, 2, .inl (upd (fun _ => 0) (Int32.toNatClampNeg 0) 0))), ((ma 66), .inl (y 2, 2, .inl (upd (fun _ => 0) (Int32.toNatClampNeg 0) 0))), ((ma 67), .inl (y 2, 2, .inl (upd (fun _ => 0) (Int32.toNatClampNeg 0) 0))), ((ma 28), .inl (y 2, 2, .inl (fun _ => 0))), ((ma 57), .inl (y 3, 3520, .inr (.inl f0))), ((ma 58), .inl (y 3, 3520, .inr (.inl f1))), ((ma 59), .inl (y 2, 3520, .inl f2)), ((ma 60), .inl (y 2, 3520, .inl f3)), ((ma 61), .inl (y 2, 3520, .inl f4)), ((ma 71), .inl (y 2, 84, .inl fh))] H := hP
  have hD : va_D A [(h0, .inr (11, mF ma (upd mi 73 0) mj)), ((ma 24), .inl (y 2, 10, .inl (fun _ => 0))), ((ma 62), .inl (y 2, 2, .inl (upd (fun _ => 0) (Int32.toNatClampNeg 0) 0))), ((ma 63), .inl (y 2, 2, .inl (upd (fun _ => 0) (Int32.toNatClampNeg 0) 0))), ((ma 64), .inl (y 2, 2, .inl (upd (fun _ => 0) (Int32.toNatClampNeg 0) 0))), ((ma 66), .inl (y 2, 2, .inl (upd (fun _ => 0) (Int32.toNatClampNeg 0) 0))), ((ma 67), .inl (y 2, 2, .inl (upd (fun _ => 0) (Int32.toNatClampNeg 0) 0))), ((ma 28), .inl (y 2, 2, .inl (fun _ => 0))), ((ma 57), .inl (y 3, 3520, .inr (.inl f0))), ((ma 58), .inl (y 3, 3520, .inr (.inl f1))), ((ma 59), .inl (y 2, 3520, .inl f2)), ((ma 60), .inl (y 2, 3520, .inl f3)), ((ma 61), .inl (y 2, 3520, .inl f4)), ((ma 71), .inl (y 2, 84, .inl fh))] := hD
  refine lv_iload_n hx hb dX12_goes_47 rfl (lv_at hl 2 rfl) ?_
  refine lv_if_ne (tgt := 56) hx hb dX12_goes_48 (by decide) (fun c_2 => ?_) (fun c_2 => ?_)
  · exact absurd (by decide) c_2
  · refine lv_aload_n hx hb dX12_goes_51 rfl (lv_at hl 1 rfl) ?_
    refine lv_iconst (v := 0) hx hb dX12_goes_52 (by decide) ?_
    refine va_put (D := D) (ci := 11) (v := .int 0) (ty := .boolean) (C := RX12) (T := TX12) (N := 85) hx hb hts inX12 tyX12 tyX12_ok nmX12 hown hK hP hD hS 0 rfl rfl 68 (by decide) fl412 (fun _ h9 => h9) rfl (by decide +kernel) rfl rfl (Nat.le_of_ble_eq_true rfl) dX12_goes_53 (fun H locs hP hD hS => ?_)
    have hP : va_P D vwCl [(h0, .inr (11, mF ma (upd (upd mi 68 0) 73 0) mj)), ((ma 24), .inl (y 2, 10, .inl (fun _ => 0))), ((ma 62), .inl (y 2, 2, .inl (upd (fun _ => 0) (Int32.toNatClampNeg 0) 0))), ((ma 63), .inl (y 2, 2, .inl (upd (fun _ => 0) (Int32.toNatClampNeg 0) 0))), ((ma 64), .inl (y 2, 2, .inl (upd (fun _ => 0) (Int32.toNatClampNeg 0) 0))), ((ma 66), .inl (y 2, 2, .inl (upd (fun _ => 0) (Int32.toNatClampNeg 0) 0))), ((ma 67), .inl (y 2, 2, .inl (upd (fun _ => 0) (Int32.toNatClampNeg 0) 0))), ((ma 28), .inl (y 2, 2, .inl (fun _ => 0))), ((ma 57), .inl (y 3, 3520, .inr (.inl f0))), ((ma 58), .inl (y 3, 3520, .inr (.inl f1))), ((ma 59), .inl (y 2, 3520, .inl f2)), ((ma 60), .inl (y 2, 3520, .inl f3)), ((ma 61), .inl (y 2, 3520, .inl f4)), ((ma 71), .inl (y 2, 84, .inl fh))] H := hP
    have hD : va_D A [(h0, .inr (11, mF ma (upd (upd mi 68 0) 73 0) mj)), ((ma 24), .inl (y 2, 10, .inl (fun _ => 0))), ((ma 62), .inl (y 2, 2, .inl (upd (fun _ => 0) (Int32.toNatClampNeg 0) 0))), ((ma 63), .inl (y 2, 2, .inl (upd (fun _ => 0) (Int32.toNatClampNeg 0) 0))), ((ma 64), .inl (y 2, 2, .inl (upd (fun _ => 0) (Int32.toNatClampNeg 0) 0))), ((ma 66), .inl (y 2, 2, .inl (upd (fun _ => 0) (Int32.toNatClampNeg 0) 0))), ((ma 67), .inl (y 2, 2, .inl (upd (fun _ => 0) (Int32.toNatClampNeg 0) 0))), ((ma 28), .inl (y 2, 2, .inl (fun _ => 0))), ((ma 57), .inl (y 3, 3520, .inr (.inl f0))), ((ma 58), .inl (y 3, 3520, .inr (.inl f1))), ((ma 59), .inl (y 2, 3520, .inl f2)), ((ma 60), .inl (y 2, 3520, .inl f3)), ((ma 61), .inl (y 2, 3520, .inl f4)), ((ma 71), .inl (y 2, 84, .inl fh))] := hD
    refine lv_iconst (v := 0) hx hb dX12_goes_56 (by decide) ?_
    refine lv_istore_n (lv' := [(3, .int 0), (2, .int 0), (0, .ref h0), (1, .int 0)]) hx hb dX12_goes_57 rfl hl (by decide) rfl (fun ls hl => ?_)
    refine lv_iload_n hx hb dX12_goes_58 rfl (lv_at hl 0 rfl) ?_
    refine lv_iload_n hx hb dX12_goes_59 rfl (lv_at hl 1 rfl) ?_
    refine lv_icmp_ge (tgt := 99) hx hb dX12_goes_60 (by decide) (fun c_3 => ?_) (fun c_3 => ?_)
    · refine lv_aload_n hx hb dX12_goes_99 rfl (lv_at hl 2 rfl) ?_
      refine lv_iload_n hx hb dX12_goes_100 rfl (lv_at hl 3 rfl) ?_
      refine lv_lconst (v := 0) hx hb dX12_goes_101 (by decide) ?_
      refine lv_lconst (v := 1) hx hb dX12_goes_102 (by decide) ?_
      refine lv_iconst (v := 0) hx hb dX12_goes_103 (by decide) ?_
      refine lv_iconst (v := (-1)) hx hb dX12_goes_104 (by decide) ?_
      refine lv_iconst (v := (-1)) hx hb dX12_goes_105 (by decide) ?_
      refine x_callv (w1 := fun (u : (Nat → Int32) × (Nat → Int64) × (Nat → Int64) × (Nat → Int32) × (Nat → Int32) × (Nat → Int32)) => [(h0, .inr (11, mF ma (upd (upd mi 68 0) 73 0) mj)), ((ma 62), .inl (y 2, 2, .inl u.1)), ((ma 57), .inl (y 3, 3520, .inr (.inl u.2.1))), ((ma 58), .inl (y 3, 3520, .inr (.inl u.2.2.1))), ((ma 59), .inl (y 2, 3520, .inl u.2.2.2.1)), ((ma 60), .inl (y 2, 3520, .inl u.2.2.2.2.1)), ((ma 61), .inl (y 2, 3520, .inl u.2.2.2.2.2))]) (wr := [((ma 24), .inl (y 2, 10, .inl (fun _ => 0))), ((ma 63), .inl (y 2, 2, .inl (upd (fun _ => 0) (Int32.toNatClampNeg 0) 0))), ((ma 64), .inl (y 2, 2, .inl (upd (fun _ => 0) (Int32.toNatClampNeg 0) 0))), ((ma 66), .inl (y 2, 2, .inl (upd (fun _ => 0) (Int32.toNatClampNeg 0) 0))), ((ma 67), .inl (y 2, 2, .inl (upd (fun _ => 0) (Int32.toNatClampNeg 0) 0))), ((ma 28), .inl (y 2, 2, .inl (fun _ => 0))), ((ma 71), .inl (y 2, 84, .inl fh))]) (ws' := fun (u : (Nat → Int32) × (Nat → Int64) × (Nat → Int64) × (Nat → Int32) × (Nat → Int32) × (Nat → Int32)) => [(h0, .inr (11, mF ma (upd (upd mi 68 0) 73 0) mj)), ((ma 24), .inl (y 2, 10, .inl (fun _ => 0))), ((ma 62), .inl (y 2, 2, .inl u.1)), ((ma 63), .inl (y 2, 2, .inl (upd (fun _ => 0) (Int32.toNatClampNeg 0) 0))), ((ma 64), .inl (y 2, 2, .inl (upd (fun _ => 0) (Int32.toNatClampNeg 0) 0))), ((ma 66), .inl (y 2, 2, .inl (upd (fun _ => 0) (Int32.toNatClampNeg 0) 0))), ((ma 67), .inl (y 2, 2, .inl (upd (fun _ => 0) (Int32.toNatClampNeg 0) 0))), ((ma 28), .inl (y 2, 2, .inl (fun _ => 0))), ((ma 57), .inl (y 3, 3520, .inr (.inl u.2.1))), ((ma 58), .inl (y 3, 3520, .inr (.inl u.2.2.1))), ((ma 59), .inl (y 2, 3520, .inl u.2.2.2.1)), ((ma 60), .inl (y 2, 3520, .inl u.2.2.2.2.1)), ((ma 61), .inl (y 2, 3520, .inl u.2.2.2.2.2)), ((ma 71), .inl (y 2, 84, .inl fh))]) (va_runV (As := [.int 0, .long 0, .long 1, .int 0, .int (-1), .int (-1)]) (rest := []) ⟨hx, hb, hml, hown, hts⟩ (m_lays0 l D y H.size h0 ma (upd (upd mi 68 0) 73 0) mj 0 1 (upd (fun _ => 0) (Int32.toNatClampNeg 0) 0) f2 f3 f4 f0 f1 rfl) (cwV 6 hts g_m_goes0_0 rfl rfl rfl (by decide +kernel) ⟨Nat.le_of_ble_eq_true rfl, Nat.le_of_ble_eq_true rfl⟩) (x_preV (q := (RX12, TX12, 85)) hK (x_subP hP [0, 2, 8, 9, 10, 11, 12] rfl) (x_subD hD [0, 2, 8, 9, 10, 11, 12] rfl (by decide)) (ci := 11) (q0 := 0) rfl rfl) rfl rfl hl.1 rfl (lv_room (Nat.le_of_ble_eq_true rfl)) dX12_goes_106 ⟨Nat.le_of_ble_eq_true rfl, Nat.le_of_ble_eq_true rfl⟩) hP hD hS hA [0, 2, 8, 9, 10, 11, 12] [1, 3, 4, 5, 6, 7, 13] rfl rfl (by decide) (by decide) [7, 0, 8, 1, 2, 3, 4, 5, 9, 10, 11, 12, 13, 6] (fun _ => rfl) (by decide) (fun u H locs hw hP hD hS => ?_)
      obtain ⟨f_4, f_5, f_6, f_7, f_8, f_9⟩ := u
      try dsimp only at hw
      have hP : va_P D vwCl [(h0, .inr (11, mF ma (upd (upd mi 68 0) 73 0) mj)), ((ma 24), .inl (y 2, 10, .inl (fun _ => 0))), ((ma 62), .inl (y 2, 2, .inl f_4)), ((ma 63), .inl (y 2, 2, .inl (upd (fun _ => 0) (Int32.toNatClampNeg 0) 0))), ((ma 64), .inl (y 2, 2, .inl (upd (fun _ => 0) (Int32.toNatClampNeg 0) 0))), ((ma 66), .inl (y 2, 2, .inl (upd (fun _ => 0) (Int32.toNatClampNeg 0) 0))), ((ma 67), .inl (y 2, 2, .inl (upd (fun _ => 0) (Int32.toNatClampNeg 0) 0))), ((ma 28), .inl (y 2, 2, .inl (fun _ => 0))), ((ma 57), .inl (y 3, 3520, .inr (.inl f_5))), ((ma 58), .inl (y 3, 3520, .inr (.inl f_6))), ((ma 59), .inl (y 2, 3520, .inl f_7)), ((ma 60), .inl (y 2, 3520, .inl f_8)), ((ma 61), .inl (y 2, 3520, .inl f_9)), ((ma 71), .inl (y 2, 84, .inl fh))] H := hP
      have hD : va_D A [(h0, .inr (11, mF ma (upd (upd mi 68 0) 73 0) mj)), ((ma 24), .inl (y 2, 10, .inl (fun _ => 0))), ((ma 62), .inl (y 2, 2, .inl f_4)), ((ma 63), .inl (y 2, 2, .inl (upd (fun _ => 0) (Int32.toNatClampNeg 0) 0))), ((ma 64), .inl (y 2, 2, .inl (upd (fun _ => 0) (Int32.toNatClampNeg 0) 0))), ((ma 66), .inl (y 2, 2, .inl (upd (fun _ => 0) (Int32.toNatClampNeg 0) 0))), ((ma 67), .inl (y 2, 2, .inl (upd (fun _ => 0) (Int32.toNatClampNeg 0) 0))), ((ma 28), .inl (y 2, 2, .inl (fun _ => 0))), ((ma 57), .inl (y 3, 3520, .inr (.inl f_5))), ((ma 58), .inl (y 3, 3520, .inr (.inl f_6))), ((ma 59), .inl (y 2, 3520, .inl f_7)), ((ma 60), .inl (y 2, 3520, .inl f_8)), ((ma 61), .inl (y 2, 3520, .inl f_9)), ((ma 71), .inl (y 2, 84, .inl fh))] := hD
      refine lv_iconst (v := 0) hx hb dX12_goes_109 (by decide) ?_
      refine lv_istore_n (lv' := [(3, .int 0), (2, .int 0), (0, .ref h0), (1, .int 0)]) hx hb dX12_goes_110 rfl hl (by decide) rfl (fun ls hl => ?_)
      refine lv_iload_n hx hb dX12_goes_111 rfl (lv_at hl 0 rfl) ?_
      refine lv_aload_n hx hb dX12_goes_112 rfl (lv_at hl 2 rfl) ?_
      refine va_get (D := D) (ci := 11) (v := .ref (ma 24)) (C := RX12) (T := TX12) (N := 85) hx hb hts inX12 hown hK hP 0 rfl rfl 24 (by decide) fl60 (fun _ h9 => h9) rfl dX12_goes_113 ?_
      refine lv_bipush (v := 9) hx hb dX12_goes_116 (by decide) ?_
      refine va_iald hx hb hK hP 1 2 rfl rfl (x_in (by decide) (by decide)) dX12_goes_118 ?_
      refine lv_topi (fun i_10 ei_10 => ?_)
      obtain rfl : i_10 = 0 := ei_10.trans (by rfl)
      refine lv_icmp_ge (tgt := 148) hx hb dX12_goes_119 (by decide) (fun c_11 => ?_) (fun c_11 => ?_)
      · refine lv_iconst (v := 0) hx hb dX12_goes_148 (by decide) ?_
        refine lv_istore_n (lv' := [(3, .int 0), (2, .int 0), (0, .ref h0), (1, .int 0)]) hx hb dX12_goes_149 rfl hl (by decide) rfl (fun ls hl => ?_)
        have loop : ∀ (fu : Nat) (i : Int32) (f : Nat → Int32) (H : Heap) (locs : List Loc) (ls : Array Slot), 0 ≤ i.toInt → i.toInt ≤ 84 → ((84 : Int) - i.toInt < (fu : Int)) → va_P D vwCl [(h0, .inr (11, mF ma (upd (upd mi 68 0) 73 0) mj)), ((ma 24), .inl (y 2, 10, .inl (fun _ => 0))), ((ma 62), .inl (y 2, 2, .inl f_4)), ((ma 63), .inl (y 2, 2, .inl (upd (fun _ => 0) (Int32.toNatClampNeg 0) 0))), ((ma 64), .inl (y 2, 2, .inl (upd (fun _ => 0) (Int32.toNatClampNeg 0) 0))), ((ma 66), .inl (y 2, 2, .inl (upd (fun _ => 0) (Int32.toNatClampNeg 0) 0))), ((ma 67), .inl (y 2, 2, .inl (upd (fun _ => 0) (Int32.toNatClampNeg 0) 0))), ((ma 28), .inl (y 2, 2, .inl (fun _ => 0))), ((ma 57), .inl (y 3, 3520, .inr (.inl f_5))), ((ma 58), .inl (y 3, 3520, .inr (.inl f_6))), ((ma 59), .inl (y 2, 3520, .inl f_7)), ((ma 60), .inl (y 2, 3520, .inl f_8)), ((ma 61), .inl (y 2, 3520, .inl f_9)), ((ma 71), .inl (y 2, 84, .inl f))] H → va_D A [(h0, .inr (11, mF ma (upd (upd mi 68 0) 73 0) mj)), ((ma 24), .inl (y 2, 10, .inl (fun _ => 0))), ((ma 62), .inl (y 2, 2, .inl f_4)), ((ma 63), .inl (y 2, 2, .inl (upd (fun _ => 0) (Int32.toNatClampNeg 0) 0))), ((ma 64), .inl (y 2, 2, .inl (upd (fun _ => 0) (Int32.toNatClampNeg 0) 0))), ((ma 66), .inl (y 2, 2, .inl (upd (fun _ => 0) (Int32.toNatClampNeg 0) 0))), ((ma 67), .inl (y 2, 2, .inl (upd (fun _ => 0) (Int32.toNatClampNeg 0) 0))), ((ma 28), .inl (y 2, 2, .inl (fun _ => 0))), ((ma 57), .inl (y 3, 3520, .inr (.inl f_5))), ((ma 58), .inl (y 3, 3520, .inr (.inl f_6))), ((ma 59), .inl (y 2, 3520, .inl f_7)), ((ma 60), .inl (y 2, 3520, .inl f_8)), ((ma 61), .inl (y 2, 3520, .inl f_9)), ((ma 71), .inl (y 2, 84, .inl f))] → va_S A s.heap H locs → lv_has ls 4 [(3, .int i), (0, .ref h0), (1, .int 0), (2, .int 0)] → W p l e ({ frames := 1, cells := 0, slots := 0, locals := 29 } : Room) s m ([.ref h0, .int 0] : List Value).toArray below meth c H locs 0 0 Q (F0 m 150 ls []) := by
          intro fu
          induction fu with
          | zero =>
            intro i f H locs ls hi0 hi1 hm
            exact absurd hm (by omega)
          | succ fu ih =>
            intro i f H locs ls hi0 hi1 hm hP hD hS hl
            refine lv_iload_n hx hb dX12_goes_150 rfl (lv_at hl 0 rfl) ?_
            refine lv_bipush (v := 84) hx hb dX12_goes_151 (by decide) ?_
            refine lv_icmp_ge (tgt := 178) hx hb dX12_goes_153 (by decide) (fun c_12 => ?_) (fun c_12 => ?_)
            · refine lv_iconst (v := 0) hx hb dX12_goes_178 (by decide) ?_
              refine lv_istore_n (lv' := [(3, .int 0), (0, .ref h0), (1, .int 0), (2, .int 0)]) hx hb dX12_goes_179 rfl hl (by decide) rfl (fun ls hl => ?_)
              refine lv_iload_n hx hb dX12_goes_180 rfl (lv_at hl 0 rfl) ?_
              refine lv_aload_n hx hb dX12_goes_181 rfl (lv_at hl 1 rfl) ?_
              refine va_get (D := D) (ci := 11) (v := .ref (ma 28)) (C := RX12) (T := TX12) (N := 85) hx hb hts inX12 hown hK hP 0 rfl rfl 28 (by decide) fl72 (fun _ h9 => h9) rfl dX12_goes_182 ?_
              refine lv_iconst (v := 1) hx hb dX12_goes_185 (by decide) ?_
              refine va_iald hx hb hK hP 7 2 rfl rfl (x_in (by decide) (by decide)) dX12_goes_186 ?_
              refine lv_topi (fun i_13 ei_13 => ?_)
              obtain rfl : i_13 = 0 := ei_13.trans (by rfl)
              refine lv_icmp_ge (tgt := 209) hx hb dX12_goes_187 (by decide) (fun c_14 => ?_) (fun c_14 => ?_)
              · exact x_vret (u := (f_4, f_5, f_6, f_7, f_8, f_9, f)) hx hb hr trivial hP hD hK hS [0, 1, 2, 3, 4, 5, 6, 7, 8, 9, 10, 11, 12, 13] rfl (by decide) dX12_goes_209 hlocks hQ
              · exact absurd (by decide) c_14
            · refine lv_aload_n hx hb dX12_goes_156 rfl (lv_at hl 1 rfl) ?_
              refine va_get (D := D) (ci := 11) (v := .ref (ma 71)) (C := RX12) (T := TX12) (N := 85) hx hb hts inX12 hown hK hP 0 rfl rfl 71 (by decide) fl157 (fun _ h9 => h9) rfl dX12_goes_157 ?_
              refine lv_iload_n hx hb dX12_goes_160 rfl (lv_at hl 0 rfl) ?_
              refine lv_iload_n hx hb dX12_goes_161 rfl (lv_at hl 0 rfl) ?_
              refine lv_iload_n hx hb dX12_goes_162 rfl (lv_at hl 3 rfl) ?_
              refine lv_icmp_ge (tgt := 170) hx hb dX12_goes_163 (by decide) (fun c_15 => ?_) (fun c_15 => ?_)
              · refine lv_iload_n hx hb dX12_goes_170 rfl (lv_at hl 3 rfl) ?_
                refine va_iast hx hb hK hP hD hS 13 2 rfl rfl (x_in (by (try dsimp only); (try simp only [lg_cmp_lt, lg_cmp_le, lg_cmp_gt, lg_cmp_ge] at *); (try simp only [x_lt, x_le, Int32.reduceToInt, x_ltL, x_leL, Int64.reduceToInt] at *); omega) (by (try dsimp only); (try simp only [lg_cmp_lt, lg_cmp_le, lg_cmp_gt, lg_cmp_ge] at *); (try simp only [x_lt, x_le, Int32.reduceToInt, x_ltL, x_leL, Int64.reduceToInt] at *); omega)) dX12_goes_171 (fun H locs hP hD hS => ?_)
                obtain ⟨f_16, ef_16⟩ : ∃ z : Nat → Int32, z = (upd f (Int32.toNatClampNeg i) 0) := ⟨_, rfl⟩
                rw [← ef_16] at hP hD
                have hP : va_P D vwCl [(h0, .inr (11, mF ma (upd (upd mi 68 0) 73 0) mj)), ((ma 24), .inl (y 2, 10, .inl (fun _ => 0))), ((ma 62), .inl (y 2, 2, .inl f_4)), ((ma 63), .inl (y 2, 2, .inl (upd (fun _ => 0) (Int32.toNatClampNeg 0) 0))), ((ma 64), .inl (y 2, 2, .inl (upd (fun _ => 0) (Int32.toNatClampNeg 0) 0))), ((ma 66), .inl (y 2, 2, .inl (upd (fun _ => 0) (Int32.toNatClampNeg 0) 0))), ((ma 67), .inl (y 2, 2, .inl (upd (fun _ => 0) (Int32.toNatClampNeg 0) 0))), ((ma 28), .inl (y 2, 2, .inl (fun _ => 0))), ((ma 57), .inl (y 3, 3520, .inr (.inl f_5))), ((ma 58), .inl (y 3, 3520, .inr (.inl f_6))), ((ma 59), .inl (y 2, 3520, .inl f_7)), ((ma 60), .inl (y 2, 3520, .inl f_8)), ((ma 61), .inl (y 2, 3520, .inl f_9)), ((ma 71), .inl (y 2, 84, .inl f_16))] H := hP
                have hD : va_D A [(h0, .inr (11, mF ma (upd (upd mi 68 0) 73 0) mj)), ((ma 24), .inl (y 2, 10, .inl (fun _ => 0))), ((ma 62), .inl (y 2, 2, .inl f_4)), ((ma 63), .inl (y 2, 2, .inl (upd (fun _ => 0) (Int32.toNatClampNeg 0) 0))), ((ma 64), .inl (y 2, 2, .inl (upd (fun _ => 0) (Int32.toNatClampNeg 0) 0))), ((ma 66), .inl (y 2, 2, .inl (upd (fun _ => 0) (Int32.toNatClampNeg 0) 0))), ((ma 67), .inl (y 2, 2, .inl (upd (fun _ => 0) (Int32.toNatClampNeg 0) 0))), ((ma 28), .inl (y 2, 2, .inl (fun _ => 0))), ((ma 57), .inl (y 3, 3520, .inr (.inl f_5))), ((ma 58), .inl (y 3, 3520, .inr (.inl f_6))), ((ma 59), .inl (y 2, 3520, .inl f_7)), ((ma 60), .inl (y 2, 3520, .inl f_8)), ((ma 61), .inl (y 2, 3520, .inl f_9)), ((ma 71), .inl (y 2, 84, .inl f_16))] := hD
                obtain ⟨i_17, ei_17⟩ : ∃ z : Int32, z = i + 1 := ⟨_, rfl⟩
                refine lv_iinc (v := i_17) (lv' := [(3, .int i_17), (0, .ref h0), (1, .int 0), (2, .int 0)]) hx hb dX12_goes_172 hl (k := 0) rfl (by rw [ei_17]; rfl) (by decide) rfl (fun ls hl => ?_)
                refine lv_goto (tgt := 150) hx hb dX12_goes_175 (by decide) ?_
                have vi_17 := x_add ei_17 (by (try dsimp only); (try simp only [lg_cmp_lt, lg_cmp_le, lg_cmp_gt, lg_cmp_ge] at *); (try simp only [x_lt, x_le, Int32.reduceToInt, x_ltL, x_leL, Int64.reduceToInt] at *); omega) (by (try dsimp only); (try simp only [lg_cmp_lt, lg_cmp_le, lg_cmp_gt, lg_cmp_ge] at *); (try simp only [x_lt, x_le, Int32.reduceToInt, x_ltL, x_leL, Int64.reduceToInt] at *); omega)
                simp only [Int32.reduceToInt] at vi_17
                exact ih i_17 f_16 H locs ls (by (try dsimp only); (try simp only [lg_cmp_lt, lg_cmp_le, lg_cmp_gt, lg_cmp_ge] at *); (try simp only [x_lt, x_le, Int32.reduceToInt, x_ltL, x_leL, Int64.reduceToInt] at *); omega) (by (try dsimp only); (try simp only [lg_cmp_lt, lg_cmp_le, lg_cmp_gt, lg_cmp_ge] at *); (try simp only [x_lt, x_le, Int32.reduceToInt, x_ltL, x_leL, Int64.reduceToInt] at *); omega) (by (try dsimp only); (try simp only [lg_cmp_lt, lg_cmp_le, lg_cmp_gt, lg_cmp_ge] at *); (try simp only [x_lt, x_le, Int32.reduceToInt, x_ltL, x_leL, Int64.reduceToInt] at *); omega) (x_subP hP [0, 1, 2, 3, 4, 5, 6, 7, 8, 9, 10, 11, 12, 13] rfl) (x_subD hD [0, 1, 2, 3, 4, 5, 6, 7, 8, 9, 10, 11, 12, 13] rfl (by decide)) hS (lv_sub hl [0, 1, 2, 3] rfl)
              · exact absurd (by (try dsimp only); (try simp only [lg_cmp_lt, lg_cmp_le, lg_cmp_gt, lg_cmp_ge] at *); (try simp only [x_lt, x_le, Int32.reduceToInt, x_ltL, x_leL, Int64.reduceToInt] at *); omega) c_15
        exact loop 85 0 fh H locs ls (by decide) (by decide) (by (try dsimp only); (try simp only [lg_cmp_lt, lg_cmp_le, lg_cmp_gt, lg_cmp_ge] at *); (try simp only [x_lt, x_le, Int32.reduceToInt, x_ltL, x_leL, Int64.reduceToInt] at *); omega) (x_subP hP [0, 1, 2, 3, 4, 5, 6, 7, 8, 9, 10, 11, 12, 13] rfl) (x_subD hD [0, 1, 2, 3, 4, 5, 6, 7, 8, 9, 10, 11, 12, 13] rfl (by decide)) hS (lv_sub hl [0, 2, 3, 1] rfl)
      · exact absurd (by decide) c_11
    · exact absurd (by decide) c_3

def v_m_run0 : List Cond := .code yX12_run cX12_run 2 (some .int) :: ([.fieldLink RX12 118 "SlopeRunnerModel" "runAbove" "[J", .fieldLink RX12 97 "SlopeRunnerModel" "putAbove" "[J", .fieldLink RX12 121 "SlopeRunnerModel" "runBelow" "[J", .fieldLink RX12 100 "SlopeRunnerModel" "putBelow" "[J", .fieldLink RX12 371 "SlopeRunnerModel" "hasRun" "Z", .fieldLink RX12 154 "SlopeRunnerModel" "state" "[I"] ++ ((wsV RX12 451 RX12 yX12_goes v_m_goes0) ++ wsX120))
theorem g_m_run0_0 : GoodIn v_m_run0 (wsV RX12 451 RX12 yX12_goes v_m_goes0) := goodIn_sub (fun w h => List.mem_cons_of_mem _ (List.mem_append_right _ (List.mem_append_left _ h))) (by decide +kernel)
set_option maxHeartbeats 4000000 in
set_option maxRecDepth 100000 in
theorem m_run0 (l : Launch) (D : va_G) (y : Nat → ClassId) (sz : Nat) (h0 : Nat) (ma : Nat → Nat) (mi : Nat → Int32) (mj : Nat → Int64) (f2 f3 f4 fh : Nat → Int32) (f0 f1 fa fb fc fd : Nat → Int64) : Met l yX12_run v_m_run0 ({ frames := 2, cells := 0, slots := 0, locals := 52 } : Room) (va_Pc [.ref h0] (xPre D (xT y) [(h0, .inr (11, mF ma mi mj)), ((ma 24), .inl (y 2, 10, .inl (fun _ => 0))), ((ma 62), .inl (y 2, 2, .inl (fun _ => 0))), ((ma 63), .inl (y 2, 2, .inl (fun _ => 0))), ((ma 64), .inl (y 2, 2, .inl (fun _ => 0))), ((ma 66), .inl (y 2, 2, .inl (fun _ => 0))), ((ma 67), .inl (y 2, 2, .inl (fun _ => 0))), ((ma 28), .inl (y 2, 2, .inl (fun _ => 0))), ((ma 57), .inl (y 3, 3520, .inr (.inl f0))), ((ma 58), .inl (y 3, 3520, .inr (.inl f1))), ((ma 59), .inl (y 2, 3520, .inl f2)), ((ma 60), .inl (y 2, 3520, .inl f3)), ((ma 61), .inl (y 2, 3520, .inl f4)), ((ma 71), .inl (y 2, 84, .inl fh)), ((ma 45), .inl (y 3, 8, .inr (.inl fa))), ((ma 46), .inl (y 3, 8, .inr (.inl fb))), ((ma 55), .inl (y 3, 16, .inr (.inl fc))), ((ma 56), .inl (y 3, 16, .inr (.inl fd)))] sz)) (va_Qi (fun (r : Int32) (_ : (Nat → Int32) × (Nat → Int64) × (Nat → Int64) × (Nat → Int32) × (Nat → Int32) × (Nat → Int32) × (Nat → Int32) × (Nat → Int64) × (Nat → Int64)) => r = 0) (fun (u : (Nat → Int32) × (Nat → Int64) × (Nat → Int64) × (Nat → Int32) × (Nat → Int32) × (Nat → Int32) × (Nat → Int32) × (Nat → Int64) × (Nat → Int64)) => xB D (xT y) (va_A [(h0, .inr (11, mF ma mi mj)), ((ma 24), .inl (y 2, 10, .inl (fun _ => 0))), ((ma 62), .inl (y 2, 2, .inl (fun _ => 0))), ((ma 63), .inl (y 2, 2, .inl (fun _ => 0))), ((ma 64), .inl (y 2, 2, .inl (fun _ => 0))), ((ma 66), .inl (y 2, 2, .inl (fun _ => 0))), ((ma 67), .inl (y 2, 2, .inl (fun _ => 0))), ((ma 28), .inl (y 2, 2, .inl (fun _ => 0))), ((ma 57), .inl (y 3, 3520, .inr (.inl f0))), ((ma 58), .inl (y 3, 3520, .inr (.inl f1))), ((ma 59), .inl (y 2, 3520, .inl f2)), ((ma 60), .inl (y 2, 3520, .inl f3)), ((ma 61), .inl (y 2, 3520, .inl f4)), ((ma 71), .inl (y 2, 84, .inl fh)), ((ma 45), .inl (y 3, 8, .inr (.inl fa))), ((ma 46), .inl (y 3, 8, .inr (.inl fb))), ((ma 55), .inl (y 3, 16, .inr (.inl fc))), ((ma 56), .inl (y 3, 16, .inr (.inl fd)))] sz) [(h0, .inr (11, mF ma (upd (upd (upd mi 54 1) 68 0) 73 0) mj)), ((ma 24), .inl (y 2, 10, .inl (fun _ => 0))), ((ma 62), .inl (y 2, 2, .inl u.1)), ((ma 63), .inl (y 2, 2, .inl (upd (fun _ => 0) (Int32.toNatClampNeg 0) 0))), ((ma 64), .inl (y 2, 2, .inl (upd (fun _ => 0) (Int32.toNatClampNeg 0) 0))), ((ma 66), .inl (y 2, 2, .inl (upd (fun _ => 0) (Int32.toNatClampNeg 0) 0))), ((ma 67), .inl (y 2, 2, .inl (upd (fun _ => 0) (Int32.toNatClampNeg 0) 0))), ((ma 28), .inl (y 2, 2, .inl (fun _ => 0))), ((ma 57), .inl (y 3, 3520, .inr (.inl u.2.1))), ((ma 58), .inl (y 3, 3520, .inr (.inl u.2.2.1))), ((ma 59), .inl (y 2, 3520, .inl u.2.2.2.1)), ((ma 60), .inl (y 2, 3520, .inl u.2.2.2.2.1)), ((ma 61), .inl (y 2, 3520, .inl u.2.2.2.2.2.1)), ((ma 71), .inl (y 2, 84, .inl u.2.2.2.2.2.2.1)), ((ma 45), .inl (y 3, 8, .inr (.inl fa))), ((ma 46), .inl (y 3, 8, .inr (.inl fb))), ((ma 55), .inl (y 3, 16, .inr (.inl u.2.2.2.2.2.2.2.1))), ((ma 56), .inl (y 3, 16, .inr (.inl u.2.2.2.2.2.2.2.2)))]) (va_A [(h0, .inr (11, mF ma mi mj)), ((ma 24), .inl (y 2, 10, .inl (fun _ => 0))), ((ma 62), .inl (y 2, 2, .inl (fun _ => 0))), ((ma 63), .inl (y 2, 2, .inl (fun _ => 0))), ((ma 64), .inl (y 2, 2, .inl (fun _ => 0))), ((ma 66), .inl (y 2, 2, .inl (fun _ => 0))), ((ma 67), .inl (y 2, 2, .inl (fun _ => 0))), ((ma 28), .inl (y 2, 2, .inl (fun _ => 0))), ((ma 57), .inl (y 3, 3520, .inr (.inl f0))), ((ma 58), .inl (y 3, 3520, .inr (.inl f1))), ((ma 59), .inl (y 2, 3520, .inl f2)), ((ma 60), .inl (y 2, 3520, .inl f3)), ((ma 61), .inl (y 2, 3520, .inl f4)), ((ma 71), .inl (y 2, 84, .inl fh)), ((ma 45), .inl (y 3, 8, .inr (.inl fa))), ((ma 46), .inl (y 3, 8, .inr (.inl fb))), ((ma 55), .inl (y 3, 16, .inr (.inl fc))), ((ma 56), .inl (y 3, 16, .inr (.inl fd)))] sz)) 0 0 (va_A [(h0, .inr (11, mF ma mi mj)), ((ma 24), .inl (y 2, 10, .inl (fun _ => 0))), ((ma 62), .inl (y 2, 2, .inl (fun _ => 0))), ((ma 63), .inl (y 2, 2, .inl (fun _ => 0))), ((ma 64), .inl (y 2, 2, .inl (fun _ => 0))), ((ma 66), .inl (y 2, 2, .inl (fun _ => 0))), ((ma 67), .inl (y 2, 2, .inl (fun _ => 0))), ((ma 28), .inl (y 2, 2, .inl (fun _ => 0))), ((ma 57), .inl (y 3, 3520, .inr (.inl f0))), ((ma 58), .inl (y 3, 3520, .inr (.inl f1))), ((ma 59), .inl (y 2, 3520, .inl f2)), ((ma 60), .inl (y 2, 3520, .inl f3)), ((ma 61), .inl (y 2, 3520, .inl f4)), ((ma 71), .inl (y 2, 84, .inl fh)), ((ma 45), .inl (y 3, 8, .inr (.inl fa))), ((ma 46), .inl (y 3, 8, .inr (.inl fb))), ((ma 55), .inl (y 3, 16, .inr (.inl fc))), ((ma 56), .inl (y 3, 16, .inr (.inl fd)))] sz) := by
  refine x_meti (cc := cX12_run) (maxL := 2) (by decide) rfl (Nat.le_of_ble_eq_true rfl) ?_
  intro p e s m below meth c A H locs Q hx hb hml hown hts hr hlocks hmn hA hP hK hD hS ls hl hQ
  have hl : lv_has ls 2 [(0, .ref h0)] := hl
  have fl118 := hts (.fieldLink RX12 118 "SlopeRunnerModel" "runAbove" "[J") (by decide +kernel)
  have inX12 : ∀ w ∈ wsX120, w ∈ v_m_run0 := (fun w h => List.mem_cons_of_mem _ (List.mem_append_right _ (List.mem_append_right _ h)))
  have fl97 := hts (.fieldLink RX12 97 "SlopeRunnerModel" "putAbove" "[J") (by decide +kernel)
  have fl121 := hts (.fieldLink RX12 121 "SlopeRunnerModel" "runBelow" "[J") (by decide +kernel)
  have fl100 := hts (.fieldLink RX12 100 "SlopeRunnerModel" "putBelow" "[J") (by decide +kernel)
  have fl371 := hts (.fieldLink RX12 371 "SlopeRunnerModel" "hasRun" "Z") (by decide +kernel)
  have fl154 := hts (.fieldLink RX12 154 "SlopeRunnerModel" "state" "[I") (by decide +kernel)
  refine lv_iconst (v := 0) hx hb dX12_run_0 (by decide) ?_
  refine lv_istore_n (lv' := [(1, .int 0), (0, .ref h0)]) hx hb dX12_run_1 rfl hl (by decide) rfl (fun ls hl => ?_)
  refine lv_iload_n hx hb dX12_run_2 rfl (lv_at hl 0 rfl) ?_
  refine lv_bipush (v := 8) hx hb dX12_run_3 (by decide) ?_
  refine lv_icmp_ge (tgt := 38) hx hb dX12_run_5 (by decide) (fun c_1 => ?_) (fun c_1 => ?_)
  · exact absurd c_1 (by decide)
  · refine lv_aload_n hx hb dX12_run_8 rfl (lv_at hl 1 rfl) ?_
    refine va_get (D := D) (ci := 11) (v := .ref (ma 55)) (C := RX12) (T := TX12) (N := 85) hx hb hts inX12 hown hK hP 0 rfl rfl 55 (by decide) fl118 (fun _ h9 => h9) rfl dX12_run_9 ?_
    refine lv_iload_n hx hb dX12_run_12 rfl (lv_at hl 0 rfl) ?_
    refine lv_aload_n hx hb dX12_run_13 rfl (lv_at hl 1 rfl) ?_
    refine va_get (D := D) (ci := 11) (v := .ref (ma 45)) (C := RX12) (T := TX12) (N := 85) hx hb hts inX12 hown hK hP 0 rfl rfl 45 (by decide) fl97 (fun _ h9 => h9) rfl dX12_run_14 ?_
    refine lv_iload_n hx hb dX12_run_17 rfl (lv_at hl 0 rfl) ?_
    refine va_lald hx hb hK hP 14 3 rfl rfl (x_in (by decide) (by decide)) dX12_run_18 ?_
    refine lv_topl (fun j_2 ej_2 => ?_)
    refine va_last hx hb hK hP hD hS 16 3 rfl rfl (x_in (by decide) (by decide)) dX12_run_19 (fun H locs hP hD hS => ?_)
    obtain ⟨f_3, ef_3⟩ : ∃ z : Nat → Int64, z = (vp_updL fc (Int32.toNatClampNeg 0) j_2) := ⟨_, rfl⟩
    rw [← ef_3] at hP hD
    have hP : va_P D vwCl [(h0, .inr (11, mF ma mi mj)), ((ma 24), .inl (y 2, 10, .inl (fun _ => 0))), ((ma 62), .inl (y 2, 2, .inl (fun _ => 0))), ((ma 63), .inl (y 2, 2, .inl (fun _ => 0))), ((ma 64), .inl (y 2, 2, .inl (fun _ => 0))), ((ma 66), .inl (y 2, 2, .inl (fun _ => 0))), ((ma 67), .inl (y 2, 2, .inl (fun _ => 0))), ((ma 28), .inl (y 2, 2, .inl (fun _ => 0))), ((ma 57), .inl (y 3, 3520, .inr (.inl f0))), ((ma 58), .inl (y 3, 3520, .inr (.inl f1))), ((ma 59), .inl (y 2, 3520, .inl f2)), ((ma 60), .inl (y 2, 3520, .inl f3)), ((ma 61), .inl (y 2, 3520, .inl f4)), ((ma 71), .inl (y 2, 84, .inl fh)), ((ma 45), .inl (y 3, 8, .inr (.inl fa))), ((ma 46), .inl (y 3, 8, .inr (.inl fb))), ((ma 55), .inl (y 3, 16, .inr (.inl f_3))), ((ma 56), .inl (y 3, 16, .inr (.inl fd)))] H := hP
    have hD : va_D A [(h0, .inr (11, mF ma mi mj)), ((ma 24), .inl (y 2, 10, .inl (fun _ => 0))), ((ma 62), .inl (y 2, 2, .inl (fun _ => 0))), ((ma 63), .inl (y 2, 2, .inl (fun _ => 0))), ((ma 64), .inl (y 2, 2, .inl (fun _ => 0))), ((ma 66), .inl (y 2, 2, .inl (fun _ => 0))), ((ma 67), .inl (y 2, 2, .inl (fun _ => 0))), ((ma 28), .inl (y 2, 2, .inl (fun _ => 0))), ((ma 57), .inl (y 3, 3520, .inr (.inl f0))), ((ma 58), .inl (y 3, 3520, .inr (.inl f1))), ((ma 59), .inl (y 2, 3520, .inl f2)), ((ma 60), .inl (y 2, 3520, .inl f3)), ((ma 61), .inl (y 2, 3520, .inl f4)), ((ma 71), .inl (y 2, 84, .inl fh)), ((ma 45), .inl (y 3, 8, .inr (.inl fa))), ((ma 46), .inl (y 3, 8, .inr (.inl fb))), ((ma 55), .inl (y 3, 16, .inr (.inl f_3))), ((ma 56), .inl (y 3, 16, .inr (.inl fd)))] := hD
    refine lv_aload_n hx hb dX12_run_20 rfl (lv_at hl 1 rfl) ?_
    refine va_get (D := D) (ci := 11) (v := .ref (ma 56)) (C := RX12) (T := TX12) (N := 85) hx hb hts inX12 hown hK hP 0 rfl rfl 56 (by decide) fl121 (fun _ h9 => h9) rfl dX12_run_21 ?_
    refine lv_iload_n hx hb dX12_run_24 rfl (lv_at hl 0 rfl) ?_
    refine lv_aload_n hx hb dX12_run_25 rfl (lv_at hl 1 rfl) ?_
    refine va_get (D := D) (ci := 11) (v := .ref (ma 46)) (C := RX12) (T := TX12) (N := 85) hx hb hts inX12 hown hK hP 0 rfl rfl 46 (by decide) fl100 (fun _ h9 => h9) rfl dX12_run_26 ?_
    refine lv_iload_n hx hb dX12_run_29 rfl (lv_at hl 0 rfl) ?_
    refine va_lald hx hb hK hP 15 3 rfl rfl (x_in (by decide) (by decide)) dX12_run_30 ?_
    refine lv_topl (fun j_4 ej_4 => ?_)
    refine va_last hx hb hK hP hD hS 17 3 rfl rfl (x_in (by decide) (by decide)) dX12_run_31 (fun H locs hP hD hS => ?_)
    obtain ⟨f_5, ef_5⟩ : ∃ z : Nat → Int64, z = (vp_updL fd (Int32.toNatClampNeg 0) j_4) := ⟨_, rfl⟩
    rw [← ef_5] at hP hD
    have hP : va_P D vwCl [(h0, .inr (11, mF ma mi mj)), ((ma 24), .inl (y 2, 10, .inl (fun _ => 0))), ((ma 62), .inl (y 2, 2, .inl (fun _ => 0))), ((ma 63), .inl (y 2, 2, .inl (fun _ => 0))), ((ma 64), .inl (y 2, 2, .inl (fun _ => 0))), ((ma 66), .inl (y 2, 2, .inl (fun _ => 0))), ((ma 67), .inl (y 2, 2, .inl (fun _ => 0))), ((ma 28), .inl (y 2, 2, .inl (fun _ => 0))), ((ma 57), .inl (y 3, 3520, .inr (.inl f0))), ((ma 58), .inl (y 3, 3520, .inr (.inl f1))), ((ma 59), .inl (y 2, 3520, .inl f2)), ((ma 60), .inl (y 2, 3520, .inl f3)), ((ma 61), .inl (y 2, 3520, .inl f4)), ((ma 71), .inl (y 2, 84, .inl fh)), ((ma 45), .inl (y 3, 8, .inr (.inl fa))), ((ma 46), .inl (y 3, 8, .inr (.inl fb))), ((ma 55), .inl (y 3, 16, .inr (.inl f_3))), ((ma 56), .inl (y 3, 16, .inr (.inl f_5)))] H := hP
    have hD : va_D A [(h0, .inr (11, mF ma mi mj)), ((ma 24), .inl (y 2, 10, .inl (fun _ => 0))), ((ma 62), .inl (y 2, 2, .inl (fun _ => 0))), ((ma 63), .inl (y 2, 2, .inl (fun _ => 0))), ((ma 64), .inl (y 2, 2, .inl (fun _ => 0))), ((ma 66), .inl (y 2, 2, .inl (fun _ => 0))), ((ma 67), .inl (y 2, 2, .inl (fun _ => 0))), ((ma 28), .inl (y 2, 2, .inl (fun _ => 0))), ((ma 57), .inl (y 3, 3520, .inr (.inl f0))), ((ma 58), .inl (y 3, 3520, .inr (.inl f1))), ((ma 59), .inl (y 2, 3520, .inl f2)), ((ma 60), .inl (y 2, 3520, .inl f3)), ((ma 61), .inl (y 2, 3520, .inl f4)), ((ma 71), .inl (y 2, 84, .inl fh)), ((ma 45), .inl (y 3, 8, .inr (.inl fa))), ((ma 46), .inl (y 3, 8, .inr (.inl fb))), ((ma 55), .inl (y 3, 16, .inr (.inl f_3))), ((ma 56), .inl (y 3, 16, .inr (.inl f_5)))] := hD
    refine lv_iinc (v := 1) (lv' := [(1, .int 1), (0, .ref h0)]) hx hb dX12_run_32 hl (k := 0) rfl (by decide) (by decide) rfl (fun ls hl => ?_)
    refine lv_goto (tgt := 2) hx hb dX12_run_35 (by decide) ?_
    refine lv_iload_n hx hb dX12_run_2 rfl (lv_at hl 0 rfl) ?_
    refine lv_bipush (v := 8) hx hb dX12_run_3 (by decide) ?_
    refine lv_icmp_ge (tgt := 38) hx hb dX12_run_5 (by decide) (fun c_6 => ?_) (fun c_6 => ?_)
    · exact absurd c_6 (by decide)
    · refine lv_aload_n hx hb dX12_run_8 rfl (lv_at hl 1 rfl) ?_
      refine va_get (D := D) (ci := 11) (v := .ref (ma 55)) (C := RX12) (T := TX12) (N := 85) hx hb hts inX12 hown hK hP 0 rfl rfl 55 (by decide) fl118 (fun _ h9 => h9) rfl dX12_run_9 ?_
      refine lv_iload_n hx hb dX12_run_12 rfl (lv_at hl 0 rfl) ?_
      refine lv_aload_n hx hb dX12_run_13 rfl (lv_at hl 1 rfl) ?_
      refine va_get (D := D) (ci := 11) (v := .ref (ma 45)) (C := RX12) (T := TX12) (N := 85) hx hb hts inX12 hown hK hP 0 rfl rfl 45 (by decide) fl97 (fun _ h9 => h9) rfl dX12_run_14 ?_
      refine lv_iload_n hx hb dX12_run_17 rfl (lv_at hl 0 rfl) ?_
      refine va_lald hx hb hK hP 14 3 rfl rfl (x_in (by decide) (by decide)) dX12_run_18 ?_
      refine lv_topl (fun j_7 ej_7 => ?_)
      refine va_last hx hb hK hP hD hS 16 3 rfl rfl (x_in (by decide) (by decide)) dX12_run_19 (fun H locs hP hD hS => ?_)
      obtain ⟨f_8, ef_8⟩ : ∃ z : Nat → Int64, z = (vp_updL f_3 (Int32.toNatClampNeg 1) j_7) := ⟨_, rfl⟩
      rw [← ef_8] at hP hD
      have hP : va_P D vwCl [(h0, .inr (11, mF ma mi mj)), ((ma 24), .inl (y 2, 10, .inl (fun _ => 0))), ((ma 62), .inl (y 2, 2, .inl (fun _ => 0))), ((ma 63), .inl (y 2, 2, .inl (fun _ => 0))), ((ma 64), .inl (y 2, 2, .inl (fun _ => 0))), ((ma 66), .inl (y 2, 2, .inl (fun _ => 0))), ((ma 67), .inl (y 2, 2, .inl (fun _ => 0))), ((ma 28), .inl (y 2, 2, .inl (fun _ => 0))), ((ma 57), .inl (y 3, 3520, .inr (.inl f0))), ((ma 58), .inl (y 3, 3520, .inr (.inl f1))), ((ma 59), .inl (y 2, 3520, .inl f2)), ((ma 60), .inl (y 2, 3520, .inl f3)), ((ma 61), .inl (y 2, 3520, .inl f4)), ((ma 71), .inl (y 2, 84, .inl fh)), ((ma 45), .inl (y 3, 8, .inr (.inl fa))), ((ma 46), .inl (y 3, 8, .inr (.inl fb))), ((ma 55), .inl (y 3, 16, .inr (.inl f_8))), ((ma 56), .inl (y 3, 16, .inr (.inl f_5)))] H := hP
      have hD : va_D A [(h0, .inr (11, mF ma mi mj)), ((ma 24), .inl (y 2, 10, .inl (fun _ => 0))), ((ma 62), .inl (y 2, 2, .inl (fun _ => 0))), ((ma 63), .inl (y 2, 2, .inl (fun _ => 0))), ((ma 64), .inl (y 2, 2, .inl (fun _ => 0))), ((ma 66), .inl (y 2, 2, .inl (fun _ => 0))), ((ma 67), .inl (y 2, 2, .inl (fun _ => 0))), ((ma 28), .inl (y 2, 2, .inl (fun _ => 0))), ((ma 57), .inl (y 3, 3520, .inr (.inl f0))), ((ma 58), .inl (y 3, 3520, .inr (.inl f1))), ((ma 59), .inl (y 2, 3520, .inl f2)), ((ma 60), .inl (y 2, 3520, .inl f3)), ((ma 61), .inl (y 2, 3520, .inl f4)), ((ma 71), .inl (y 2, 84, .inl fh)), ((ma 45), .inl (y 3, 8, .inr (.inl fa))), ((ma 46), .inl (y 3, 8, .inr (.inl fb))), ((ma 55), .inl (y 3, 16, .inr (.inl f_8))), ((ma 56), .inl (y 3, 16, .inr (.inl f_5)))] := hD
      refine lv_aload_n hx hb dX12_run_20 rfl (lv_at hl 1 rfl) ?_
      refine va_get (D := D) (ci := 11) (v := .ref (ma 56)) (C := RX12) (T := TX12) (N := 85) hx hb hts inX12 hown hK hP 0 rfl rfl 56 (by decide) fl121 (fun _ h9 => h9) rfl dX12_run_21 ?_
      refine lv_iload_n hx hb dX12_run_24 rfl (lv_at hl 0 rfl) ?_
      refine lv_aload_n hx hb dX12_run_25 rfl (lv_at hl 1 rfl) ?_
      refine va_get (D := D) (ci := 11) (v := .ref (ma 46)) (C := RX12) (T := TX12) (N := 85) hx hb hts inX12 hown hK hP 0 rfl rfl 46 (by decide) fl100 (fun _ h9 => h9) rfl dX12_run_26 ?_
      refine lv_iload_n hx hb dX12_run_29 rfl (lv_at hl 0 rfl) ?_
      refine va_lald hx hb hK hP 15 3 rfl rfl (x_in (by decide) (by decide)) dX12_run_30 ?_
      refine lv_topl (fun j_9 ej_9 => ?_)
      refine va_last hx hb hK hP hD hS 17 3 rfl rfl (x_in (by decide) (by decide)) dX12_run_31 (fun H locs hP hD hS => ?_)
      obtain ⟨f_10, ef_10⟩ : ∃ z : Nat → Int64, z = (vp_updL f_5 (Int32.toNatClampNeg 1) j_9) := ⟨_, rfl⟩
      rw [← ef_10] at hP hD
      have hP : va_P D vwCl [(h0, .inr (11, mF ma mi mj)), ((ma 24), .inl (y 2, 10, .inl (fun _ => 0))), ((ma 62), .inl (y 2, 2, .inl (fun _ => 0))), ((ma 63), .inl (y 2, 2, .inl (fun _ => 0))), ((ma 64), .inl (y 2, 2, .inl (fun _ => 0))), ((ma 66), .inl (y 2, 2, .inl (fun _ => 0))), ((ma 67), .inl (y 2, 2, .inl (fun _ => 0))), ((ma 28), .inl (y 2, 2, .inl (fun _ => 0))), ((ma 57), .inl (y 3, 3520, .inr (.inl f0))), ((ma 58), .inl (y 3, 3520, .inr (.inl f1))), ((ma 59), .inl (y 2, 3520, .inl f2)), ((ma 60), .inl (y 2, 3520, .inl f3)), ((ma 61), .inl (y 2, 3520, .inl f4)), ((ma 71), .inl (y 2, 84, .inl fh)), ((ma 45), .inl (y 3, 8, .inr (.inl fa))), ((ma 46), .inl (y 3, 8, .inr (.inl fb))), ((ma 55), .inl (y 3, 16, .inr (.inl f_8))), ((ma 56), .inl (y 3, 16, .inr (.inl f_10)))] H := hP
      have hD : va_D A [(h0, .inr (11, mF ma mi mj)), ((ma 24), .inl (y 2, 10, .inl (fun _ => 0))), ((ma 62), .inl (y 2, 2, .inl (fun _ => 0))), ((ma 63), .inl (y 2, 2, .inl (fun _ => 0))), ((ma 64), .inl (y 2, 2, .inl (fun _ => 0))), ((ma 66), .inl (y 2, 2, .inl (fun _ => 0))), ((ma 67), .inl (y 2, 2, .inl (fun _ => 0))), ((ma 28), .inl (y 2, 2, .inl (fun _ => 0))), ((ma 57), .inl (y 3, 3520, .inr (.inl f0))), ((ma 58), .inl (y 3, 3520, .inr (.inl f1))), ((ma 59), .inl (y 2, 3520, .inl f2)), ((ma 60), .inl (y 2, 3520, .inl f3)), ((ma 61), .inl (y 2, 3520, .inl f4)), ((ma 71), .inl (y 2, 84, .inl fh)), ((ma 45), .inl (y 3, 8, .inr (.inl fa))), ((ma 46), .inl (y 3, 8, .inr (.inl fb))), ((ma 55), .inl (y 3, 16, .inr (.inl f_8))), ((ma 56), .inl (y 3, 16, .inr (.inl f_10)))] := hD
      refine lv_iinc (v := 2) (lv' := [(1, .int 2), (0, .ref h0)]) hx hb dX12_run_32 hl (k := 0) rfl (by decide) (by decide) rfl (fun ls hl => ?_)
      refine lv_goto (tgt := 2) hx hb dX12_run_35 (by decide) ?_
      refine lv_iload_n hx hb dX12_run_2 rfl (lv_at hl 0 rfl) ?_
      refine lv_bipush (v := 8) hx hb dX12_run_3 (by decide) ?_
      refine lv_icmp_ge (tgt := 38) hx hb dX12_run_5 (by decide) (fun c_11 => ?_) (fun c_11 => ?_)
      · exact absurd c_11 (by decide)
      · refine lv_aload_n hx hb dX12_run_8 rfl (lv_at hl 1 rfl) ?_
        refine va_get (D := D) (ci := 11) (v := .ref (ma 55)) (C := RX12) (T := TX12) (N := 85) hx hb hts inX12 hown hK hP 0 rfl rfl 55 (by decide) fl118 (fun _ h9 => h9) rfl dX12_run_9 ?_
        refine lv_iload_n hx hb dX12_run_12 rfl (lv_at hl 0 rfl) ?_
        refine lv_aload_n hx hb dX12_run_13 rfl (lv_at hl 1 rfl) ?_
        refine va_get (D := D) (ci := 11) (v := .ref (ma 45)) (C := RX12) (T := TX12) (N := 85) hx hb hts inX12 hown hK hP 0 rfl rfl 45 (by decide) fl97 (fun _ h9 => h9) rfl dX12_run_14 ?_
        refine lv_iload_n hx hb dX12_run_17 rfl (lv_at hl 0 rfl) ?_
        refine va_lald hx hb hK hP 14 3 rfl rfl (x_in (by decide) (by decide)) dX12_run_18 ?_
        refine lv_topl (fun j_12 ej_12 => ?_)
        refine va_last hx hb hK hP hD hS 16 3 rfl rfl (x_in (by decide) (by decide)) dX12_run_19 (fun H locs hP hD hS => ?_)
        obtain ⟨f_13, ef_13⟩ : ∃ z : Nat → Int64, z = (vp_updL f_8 (Int32.toNatClampNeg 2) j_12) := ⟨_, rfl⟩
        rw [← ef_13] at hP hD
        have hP : va_P D vwCl [(h0, .inr (11, mF ma mi mj)), ((ma 24), .inl (y 2, 10, .inl (fun _ => 0))), ((ma 62), .inl (y 2, 2, .inl (fun _ => 0))), ((ma 63), .inl (y 2, 2, .inl (fun _ => 0))), ((ma 64), .inl (y 2, 2, .inl (fun _ => 0))), ((ma 66), .inl (y 2, 2, .inl (fun _ => 0))), ((ma 67), .inl (y 2, 2, .inl (fun _ => 0))), ((ma 28), .inl (y 2, 2, .inl (fun _ => 0))), ((ma 57), .inl (y 3, 3520, .inr (.inl f0))), ((ma 58), .inl (y 3, 3520, .inr (.inl f1))), ((ma 59), .inl (y 2, 3520, .inl f2)), ((ma 60), .inl (y 2, 3520, .inl f3)), ((ma 61), .inl (y 2, 3520, .inl f4)), ((ma 71), .inl (y 2, 84, .inl fh)), ((ma 45), .inl (y 3, 8, .inr (.inl fa))), ((ma 46), .inl (y 3, 8, .inr (.inl fb))), ((ma 55), .inl (y 3, 16, .inr (.inl f_13))), ((ma 56), .inl (y 3, 16, .inr (.inl f_10)))] H := hP
        have hD : va_D A [(h0, .inr (11, mF ma mi mj)), ((ma 24), .inl (y 2, 10, .inl (fun _ => 0))), ((ma 62), .inl (y 2, 2, .inl (fun _ => 0))), ((ma 63), .inl (y 2, 2, .inl (fun _ => 0))), ((ma 64), .inl (y 2, 2, .inl (fun _ => 0))), ((ma 66), .inl (y 2, 2, .inl (fun _ => 0))), ((ma 67), .inl (y 2, 2, .inl (fun _ => 0))), ((ma 28), .inl (y 2, 2, .inl (fun _ => 0))), ((ma 57), .inl (y 3, 3520, .inr (.inl f0))), ((ma 58), .inl (y 3, 3520, .inr (.inl f1))), ((ma 59), .inl (y 2, 3520, .inl f2)), ((ma 60), .inl (y 2, 3520, .inl f3)), ((ma 61), .inl (y 2, 3520, .inl f4)), ((ma 71), .inl (y 2, 84, .inl fh)), ((ma 45), .inl (y 3, 8, .inr (.inl fa))), ((ma 46), .inl (y 3, 8, .inr (.inl fb))), ((ma 55), .inl (y 3, 16, .inr (.inl f_13))), ((ma 56), .inl (y 3, 16, .inr (.inl f_10)))] := hD
        refine lv_aload_n hx hb dX12_run_20 rfl (lv_at hl 1 rfl) ?_
        refine va_get (D := D) (ci := 11) (v := .ref (ma 56)) (C := RX12) (T := TX12) (N := 85) hx hb hts inX12 hown hK hP 0 rfl rfl 56 (by decide) fl121 (fun _ h9 => h9) rfl dX12_run_21 ?_
        refine lv_iload_n hx hb dX12_run_24 rfl (lv_at hl 0 rfl) ?_
        refine lv_aload_n hx hb dX12_run_25 rfl (lv_at hl 1 rfl) ?_
        refine va_get (D := D) (ci := 11) (v := .ref (ma 46)) (C := RX12) (T := TX12) (N := 85) hx hb hts inX12 hown hK hP 0 rfl rfl 46 (by decide) fl100 (fun _ h9 => h9) rfl dX12_run_26 ?_
        refine lv_iload_n hx hb dX12_run_29 rfl (lv_at hl 0 rfl) ?_
        refine va_lald hx hb hK hP 15 3 rfl rfl (x_in (by decide) (by decide)) dX12_run_30 ?_
        refine lv_topl (fun j_14 ej_14 => ?_)
        refine va_last hx hb hK hP hD hS 17 3 rfl rfl (x_in (by decide) (by decide)) dX12_run_31 (fun H locs hP hD hS => ?_)
        obtain ⟨f_15, ef_15⟩ : ∃ z : Nat → Int64, z = (vp_updL f_10 (Int32.toNatClampNeg 2) j_14) := ⟨_, rfl⟩
        rw [← ef_15] at hP hD
        have hP : va_P D vwCl [(h0, .inr (11, mF ma mi mj)), ((ma 24), .inl (y 2, 10, .inl (fun _ => 0))), ((ma 62), .inl (y 2, 2, .inl (fun _ => 0))), ((ma 63), .inl (y 2, 2, .inl (fun _ => 0))), ((ma 64), .inl (y 2, 2, .inl (fun _ => 0))), ((ma 66), .inl (y 2, 2, .inl (fun _ => 0))), ((ma 67), .inl (y 2, 2, .inl (fun _ => 0))), ((ma 28), .inl (y 2, 2, .inl (fun _ => 0))), ((ma 57), .inl (y 3, 3520, .inr (.inl f0))), ((ma 58), .inl (y 3, 3520, .inr (.inl f1))), ((ma 59), .inl (y 2, 3520, .inl f2)), ((ma 60), .inl (y 2, 3520, .inl f3)), ((ma 61), .inl (y 2, 3520, .inl f4)), ((ma 71), .inl (y 2, 84, .inl fh)), ((ma 45), .inl (y 3, 8, .inr (.inl fa))), ((ma 46), .inl (y 3, 8, .inr (.inl fb))), ((ma 55), .inl (y 3, 16, .inr (.inl f_13))), ((ma 56), .inl (y 3, 16, .inr (.inl f_15)))] H := hP
        have hD : va_D A [(h0, .inr (11, mF ma mi mj)), ((ma 24), .inl (y 2, 10, .inl (fun _ => 0))), ((ma 62), .inl (y 2, 2, .inl (fun _ => 0))), ((ma 63), .inl (y 2, 2, .inl (fun _ => 0))), ((ma 64), .inl (y 2, 2, .inl (fun _ => 0))), ((ma 66), .inl (y 2, 2, .inl (fun _ => 0))), ((ma 67), .inl (y 2, 2, .inl (fun _ => 0))), ((ma 28), .inl (y 2, 2, .inl (fun _ => 0))), ((ma 57), .inl (y 3, 3520, .inr (.inl f0))), ((ma 58), .inl (y 3, 3520, .inr (.inl f1))), ((ma 59), .inl (y 2, 3520, .inl f2)), ((ma 60), .inl (y 2, 3520, .inl f3)), ((ma 61), .inl (y 2, 3520, .inl f4)), ((ma 71), .inl (y 2, 84, .inl fh)), ((ma 45), .inl (y 3, 8, .inr (.inl fa))), ((ma 46), .inl (y 3, 8, .inr (.inl fb))), ((ma 55), .inl (y 3, 16, .inr (.inl f_13))), ((ma 56), .inl (y 3, 16, .inr (.inl f_15)))] := hD
        refine lv_iinc (v := 3) (lv' := [(1, .int 3), (0, .ref h0)]) hx hb dX12_run_32 hl (k := 0) rfl (by decide) (by decide) rfl (fun ls hl => ?_)
        refine lv_goto (tgt := 2) hx hb dX12_run_35 (by decide) ?_
        refine lv_iload_n hx hb dX12_run_2 rfl (lv_at hl 0 rfl) ?_
        refine lv_bipush (v := 8) hx hb dX12_run_3 (by decide) ?_
        refine lv_icmp_ge (tgt := 38) hx hb dX12_run_5 (by decide) (fun c_16 => ?_) (fun c_16 => ?_)
        · exact absurd c_16 (by decide)
        · refine lv_aload_n hx hb dX12_run_8 rfl (lv_at hl 1 rfl) ?_
          refine va_get (D := D) (ci := 11) (v := .ref (ma 55)) (C := RX12) (T := TX12) (N := 85) hx hb hts inX12 hown hK hP 0 rfl rfl 55 (by decide) fl118 (fun _ h9 => h9) rfl dX12_run_9 ?_
          refine lv_iload_n hx hb dX12_run_12 rfl (lv_at hl 0 rfl) ?_
          refine lv_aload_n hx hb dX12_run_13 rfl (lv_at hl 1 rfl) ?_
          refine va_get (D := D) (ci := 11) (v := .ref (ma 45)) (C := RX12) (T := TX12) (N := 85) hx hb hts inX12 hown hK hP 0 rfl rfl 45 (by decide) fl97 (fun _ h9 => h9) rfl dX12_run_14 ?_
          refine lv_iload_n hx hb dX12_run_17 rfl (lv_at hl 0 rfl) ?_
          refine va_lald hx hb hK hP 14 3 rfl rfl (x_in (by decide) (by decide)) dX12_run_18 ?_
          refine lv_topl (fun j_17 ej_17 => ?_)
          refine va_last hx hb hK hP hD hS 16 3 rfl rfl (x_in (by decide) (by decide)) dX12_run_19 (fun H locs hP hD hS => ?_)
          obtain ⟨f_18, ef_18⟩ : ∃ z : Nat → Int64, z = (vp_updL f_13 (Int32.toNatClampNeg 3) j_17) := ⟨_, rfl⟩
          rw [← ef_18] at hP hD
          have hP : va_P D vwCl [(h0, .inr (11, mF ma mi mj)), ((ma 24), .inl (y 2, 10, .inl (fun _ => 0))), ((ma 62), .inl (y 2, 2, .inl (fun _ => 0))), ((ma 63), .inl (y 2, 2, .inl (fun _ => 0))), ((ma 64), .inl (y 2, 2, .inl (fun _ => 0))), ((ma 66), .inl (y 2, 2, .inl (fun _ => 0))), ((ma 67), .inl (y 2, 2, .inl (fun _ => 0))), ((ma 28), .inl (y 2, 2, .inl (fun _ => 0))), ((ma 57), .inl (y 3, 3520, .inr (.inl f0))), ((ma 58), .inl (y 3, 3520, .inr (.inl f1))), ((ma 59), .inl (y 2, 3520, .inl f2)), ((ma 60), .inl (y 2, 3520, .inl f3)), ((ma 61), .inl (y 2, 3520, .inl f4)), ((ma 71), .inl (y 2, 84, .inl fh)), ((ma 45), .inl (y 3, 8, .inr (.inl fa))), ((ma 46), .inl (y 3, 8, .inr (.inl fb))), ((ma 55), .inl (y 3, 16, .inr (.inl f_18))), ((ma 56), .inl (y 3, 16, .inr (.inl f_15)))] H := hP
          have hD : va_D A [(h0, .inr (11, mF ma mi mj)), ((ma 24), .inl (y 2, 10, .inl (fun _ => 0))), ((ma 62), .inl (y 2, 2, .inl (fun _ => 0))), ((ma 63), .inl (y 2, 2, .inl (fun _ => 0))), ((ma 64), .inl (y 2, 2, .inl (fun _ => 0))), ((ma 66), .inl (y 2, 2, .inl (fun _ => 0))), ((ma 67), .inl (y 2, 2, .inl (fun _ => 0))), ((ma 28), .inl (y 2, 2, .inl (fun _ => 0))), ((ma 57), .inl (y 3, 3520, .inr (.inl f0))), ((ma 58), .inl (y 3, 3520, .inr (.inl f1))), ((ma 59), .inl (y 2, 3520, .inl f2)), ((ma 60), .inl (y 2, 3520, .inl f3)), ((ma 61), .inl (y 2, 3520, .inl f4)), ((ma 71), .inl (y 2, 84, .inl fh)), ((ma 45), .inl (y 3, 8, .inr (.inl fa))), ((ma 46), .inl (y 3, 8, .inr (.inl fb))), ((ma 55), .inl (y 3, 16, .inr (.inl f_18))), ((ma 56), .inl (y 3, 16, .inr (.inl f_15)))] := hD
          refine lv_aload_n hx hb dX12_run_20 rfl (lv_at hl 1 rfl) ?_
          refine va_get (D := D) (ci := 11) (v := .ref (ma 56)) (C := RX12) (T := TX12) (N := 85) hx hb hts inX12 hown hK hP 0 rfl rfl 56 (by decide) fl121 (fun _ h9 => h9) rfl dX12_run_21 ?_
          refine lv_iload_n hx hb dX12_run_24 rfl (lv_at hl 0 rfl) ?_
          refine lv_aload_n hx hb dX12_run_25 rfl (lv_at hl 1 rfl) ?_
          refine va_get (D := D) (ci := 11) (v := .ref (ma 46)) (C := RX12) (T := TX12) (N := 85) hx hb hts inX12 hown hK hP 0 rfl rfl 46 (by decide) fl100 (fun _ h9 => h9) rfl dX12_run_26 ?_
          refine lv_iload_n hx hb dX12_run_29 rfl (lv_at hl 0 rfl) ?_
          refine va_lald hx hb hK hP 15 3 rfl rfl (x_in (by decide) (by decide)) dX12_run_30 ?_
          refine lv_topl (fun j_19 ej_19 => ?_)
          refine va_last hx hb hK hP hD hS 17 3 rfl rfl (x_in (by decide) (by decide)) dX12_run_31 (fun H locs hP hD hS => ?_)
          obtain ⟨f_20, ef_20⟩ : ∃ z : Nat → Int64, z = (vp_updL f_15 (Int32.toNatClampNeg 3) j_19) := ⟨_, rfl⟩
          rw [← ef_20] at hP hD
          have hP : va_P D vwCl [(h0, .inr (11, mF ma mi mj)), ((ma 24), .inl (y 2, 10, .inl (fun _ => 0))), ((ma 62), .inl (y 2, 2, .inl (fun _ => 0))), ((ma 63), .inl (y 2, 2, .inl (fun _ => 0))), ((ma 64), .inl (y 2, 2, .inl (fun _ => 0))), ((ma 66), .inl (y 2, 2, .inl (fun _ => 0))), ((ma 67), .inl (y 2, 2, .inl (fun _ => 0))), ((ma 28), .inl (y 2, 2, .inl (fun _ => 0))), ((ma 57), .inl (y 3, 3520, .inr (.inl f0))), ((ma 58), .inl (y 3, 3520, .inr (.inl f1))), ((ma 59), .inl (y 2, 3520, .inl f2)), ((ma 60), .inl (y 2, 3520, .inl f3)), ((ma 61), .inl (y 2, 3520, .inl f4)), ((ma 71), .inl (y 2, 84, .inl fh)), ((ma 45), .inl (y 3, 8, .inr (.inl fa))), ((ma 46), .inl (y 3, 8, .inr (.inl fb))), ((ma 55), .inl (y 3, 16, .inr (.inl f_18))), ((ma 56), .inl (y 3, 16, .inr (.inl f_20)))] H := hP
          have hD : va_D A [(h0, .inr (11, mF ma mi mj)), ((ma 24), .inl (y 2, 10, .inl (fun _ => 0))), ((ma 62), .inl (y 2, 2, .inl (fun _ => 0))), ((ma 63), .inl (y 2, 2, .inl (fun _ => 0))), ((ma 64), .inl (y 2, 2, .inl (fun _ => 0))), ((ma 66), .inl (y 2, 2, .inl (fun _ => 0))), ((ma 67), .inl (y 2, 2, .inl (fun _ => 0))), ((ma 28), .inl (y 2, 2, .inl (fun _ => 0))), ((ma 57), .inl (y 3, 3520, .inr (.inl f0))), ((ma 58), .inl (y 3, 3520, .inr (.inl f1))), ((ma 59), .inl (y 2, 3520, .inl f2)), ((ma 60), .inl (y 2, 3520, .inl f3)), ((ma 61), .inl (y 2, 3520, .inl f4)), ((ma 71), .inl (y 2, 84, .inl fh)), ((ma 45), .inl (y 3, 8, .inr (.inl fa))), ((ma 46), .inl (y 3, 8, .inr (.inl fb))), ((ma 55), .inl (y 3, 16, .inr (.inl f_18))), ((ma 56), .inl (y 3, 16, .inr (.inl f_20)))] := hD
          refine lv_iinc (v := 4) (lv' := [(1, .int 4), (0, .ref h0)]) hx hb dX12_run_32 hl (k := 0) rfl (by decide) (by decide) rfl (fun ls hl => ?_)
          refine lv_goto (tgt := 2) hx hb dX12_run_35 (by decide) ?_
          refine lv_iload_n hx hb dX12_run_2 rfl (lv_at hl 0 rfl) ?_
          refine lv_bipush (v := 8) hx hb dX12_run_3 (by decide) ?_
          refine lv_icmp_ge (tgt := 38) hx hb dX12_run_5 (by decide) (fun c_21 => ?_) (fun c_21 => ?_)
          · exact absurd c_21 (by decide)
          · refine lv_aload_n hx hb dX12_run_8 rfl (lv_at hl 1 rfl) ?_
            refine va_get (D := D) (ci := 11) (v := .ref (ma 55)) (C := RX12) (T := TX12) (N := 85) hx hb hts inX12 hown hK hP 0 rfl rfl 55 (by decide) fl118 (fun _ h9 => h9) rfl dX12_run_9 ?_
            refine lv_iload_n hx hb dX12_run_12 rfl (lv_at hl 0 rfl) ?_
            refine lv_aload_n hx hb dX12_run_13 rfl (lv_at hl 1 rfl) ?_
            refine va_get (D := D) (ci := 11) (v := .ref (ma 45)) (C := RX12) (T := TX12) (N := 85) hx hb hts inX12 hown hK hP 0 rfl rfl 45 (by decide) fl97 (fun _ h9 => h9) rfl dX12_run_14 ?_
            refine lv_iload_n hx hb dX12_run_17 rfl (lv_at hl 0 rfl) ?_
            refine va_lald hx hb hK hP 14 3 rfl rfl (x_in (by decide) (by decide)) dX12_run_18 ?_
            refine lv_topl (fun j_22 ej_22 => ?_)
            refine va_last hx hb hK hP hD hS 16 3 rfl rfl (x_in (by decide) (by decide)) dX12_run_19 (fun H locs hP hD hS => ?_)
            obtain ⟨f_23, ef_23⟩ : ∃ z : Nat → Int64, z = (vp_updL f_18 (Int32.toNatClampNeg 4) j_22) := ⟨_, rfl⟩
            rw [← ef_23] at hP hD
            have hP : va_P D vwCl [(h0, .inr (11, mF ma mi mj)), ((ma 24), .inl (y 2, 10, .inl (fun _ => 0))), ((ma 62), .inl (y 2, 2, .inl (fun _ => 0))), ((ma 63), .inl (y 2, 2, .inl (fun _ => 0))), ((ma 64), .inl (y 2, 2, .inl (fun _ => 0))), ((ma 66), .inl (y 2, 2, .inl (fun _ => 0))), ((ma 67), .inl (y 2, 2, .inl (fun _ => 0))), ((ma 28), .inl (y 2, 2, .inl (fun _ => 0))), ((ma 57), .inl (y 3, 3520, .inr (.inl f0))), ((ma 58), .inl (y 3, 3520, .inr (.inl f1))), ((ma 59), .inl (y 2, 3520, .inl f2)), ((ma 60), .inl (y 2, 3520, .inl f3)), ((ma 61), .inl (y 2, 3520, .inl f4)), ((ma 71), .inl (y 2, 84, .inl fh)), ((ma 45), .inl (y 3, 8, .inr (.inl fa))), ((ma 46), .inl (y 3, 8, .inr (.inl fb))), ((ma 55), .inl (y 3, 16, .inr (.inl f_23))), ((ma 56), .inl (y 3, 16, .inr (.inl f_20)))] H := hP
            have hD : va_D A [(h0, .inr (11, mF ma mi mj)), ((ma 24), .inl (y 2, 10, .inl (fun _ => 0))), ((ma 62), .inl (y 2, 2, .inl (fun _ => 0))), ((ma 63), .inl (y 2, 2, .inl (fun _ => 0))), ((ma 64), .inl (y 2, 2, .inl (fun _ => 0))), ((ma 66), .inl (y 2, 2, .inl (fun _ => 0))), ((ma 67), .inl (y 2, 2, .inl (fun _ => 0))), ((ma 28), .inl (y 2, 2, .inl (fun _ => 0))), ((ma 57), .inl (y 3, 3520, .inr (.inl f0))), ((ma 58), .inl (y 3, 3520, .inr (.inl f1))), ((ma 59), .inl (y 2, 3520, .inl f2)), ((ma 60), .inl (y 2, 3520, .inl f3)), ((ma 61), .inl (y 2, 3520, .inl f4)), ((ma 71), .inl (y 2, 84, .inl fh)), ((ma 45), .inl (y 3, 8, .inr (.inl fa))), ((ma 46), .inl (y 3, 8, .inr (.inl fb))), ((ma 55), .inl (y 3, 16, .inr (.inl f_23))), ((ma 56), .inl (y 3, 16, .inr (.inl f_20)))] := hD
            refine lv_aload_n hx hb dX12_run_20 rfl (lv_at hl 1 rfl) ?_
            refine va_get (D := D) (ci := 11) (v := .ref (ma 56)) (C := RX12) (T := TX12) (N := 85) hx hb hts inX12 hown hK hP 0 rfl rfl 56 (by decide) fl121 (fun _ h9 => h9) rfl dX12_run_21 ?_
            refine lv_iload_n hx hb dX12_run_24 rfl (lv_at hl 0 rfl) ?_
            refine lv_aload_n hx hb dX12_run_25 rfl (lv_at hl 1 rfl) ?_
            refine va_get (D := D) (ci := 11) (v := .ref (ma 46)) (C := RX12) (T := TX12) (N := 85) hx hb hts inX12 hown hK hP 0 rfl rfl 46 (by decide) fl100 (fun _ h9 => h9) rfl dX12_run_26 ?_
            refine lv_iload_n hx hb dX12_run_29 rfl (lv_at hl 0 rfl) ?_
            refine va_lald hx hb hK hP 15 3 rfl rfl (x_in (by decide) (by decide)) dX12_run_30 ?_
            refine lv_topl (fun j_24 ej_24 => ?_)
            refine va_last hx hb hK hP hD hS 17 3 rfl rfl (x_in (by decide) (by decide)) dX12_run_31 (fun H locs hP hD hS => ?_)
            obtain ⟨f_25, ef_25⟩ : ∃ z : Nat → Int64, z = (vp_updL f_20 (Int32.toNatClampNeg 4) j_24) := ⟨_, rfl⟩
            rw [← ef_25] at hP hD
            have hP : va_P D vwCl [(h0, .inr (11, mF ma mi mj)), ((ma 24), .inl (y 2, 10, .inl (fun _ => 0))), ((ma 62), .inl (y 2, 2, .inl (fun _ => 0))), ((ma 63), .inl (y 2, 2, .inl (fun _ => 0))), ((ma 64), .inl (y 2, 2, .inl (fun _ => 0))), ((ma 66), .inl (y 2, 2, .inl (fun _ => 0))), ((ma 67), .inl (y 2, 2, .inl (fun _ => 0))), ((ma 28), .inl (y 2, 2, .inl (fun _ => 0))), ((ma 57), .inl (y 3, 3520, .inr (.inl f0))), ((ma 58), .inl (y 3, 3520, .inr (.inl f1))), ((ma 59), .inl (y 2, 3520, .inl f2)), ((ma 60), .inl (y 2, 3520, .inl f3)), ((ma 61), .inl (y 2, 3520, .inl f4)), ((ma 71), .inl (y 2, 84, .inl fh)), ((ma 45), .inl (y 3, 8, .inr (.inl fa))), ((ma 46), .inl (y 3, 8, .inr (.inl fb))), ((ma 55), .inl (y 3, 16, .inr (.inl f_23))), ((ma 56), .inl (y 3, 16, .inr (.inl f_25)))] H := hP
            have hD : va_D A [(h0, .inr (11, mF ma mi mj)), ((ma 24), .inl (y 2, 10, .inl (fun _ => 0))), ((ma 62), .inl (y 2, 2, .inl (fun _ => 0))), ((ma 63), .inl (y 2, 2, .inl (fun _ => 0))), ((ma 64), .inl (y 2, 2, .inl (fun _ => 0))), ((ma 66), .inl (y 2, 2, .inl (fun _ => 0))), ((ma 67), .inl (y 2, 2, .inl (fun _ => 0))), ((ma 28), .inl (y 2, 2, .inl (fun _ => 0))), ((ma 57), .inl (y 3, 3520, .inr (.inl f0))), ((ma 58), .inl (y 3, 3520, .inr (.inl f1))), ((ma 59), .inl (y 2, 3520, .inl f2)), ((ma 60), .inl (y 2, 3520, .inl f3)), ((ma 61), .inl (y 2, 3520, .inl f4)), ((ma 71), .inl (y 2, 84, .inl fh)), ((ma 45), .inl (y 3, 8, .inr (.inl fa))), ((ma 46), .inl (y 3, 8, .inr (.inl fb))), ((ma 55), .inl (y 3, 16, .inr (.inl f_23))), ((ma 56), .inl (y 3, 16, .inr (.inl f_25)))] := hD
            refine lv_iinc (v := 5) (lv' := [(1, .int 5), (0, .ref h0)]) hx hb dX12_run_32 hl (k := 0) rfl (by decide) (by decide) rfl (fun ls hl => ?_)
            refine lv_goto (tgt := 2) hx hb dX12_run_35 (by decide) ?_
            refine lv_iload_n hx hb dX12_run_2 rfl (lv_at hl 0 rfl) ?_
            refine lv_bipush (v := 8) hx hb dX12_run_3 (by decide) ?_
            refine lv_icmp_ge (tgt := 38) hx hb dX12_run_5 (by decide) (fun c_26 => ?_) (fun c_26 => ?_)
            · exact absurd c_26 (by decide)
            · refine lv_aload_n hx hb dX12_run_8 rfl (lv_at hl 1 rfl) ?_
              refine va_get (D := D) (ci := 11) (v := .ref (ma 55)) (C := RX12) (T := TX12) (N := 85) hx hb hts inX12 hown hK hP 0 rfl rfl 55 (by decide) fl118 (fun _ h9 => h9) rfl dX12_run_9 ?_
              refine lv_iload_n hx hb dX12_run_12 rfl (lv_at hl 0 rfl) ?_
              refine lv_aload_n hx hb dX12_run_13 rfl (lv_at hl 1 rfl) ?_
              refine va_get (D := D) (ci := 11) (v := .ref (ma 45)) (C := RX12) (T := TX12) (N := 85) hx hb hts inX12 hown hK hP 0 rfl rfl 45 (by decide) fl97 (fun _ h9 => h9) rfl dX12_run_14 ?_
              refine lv_iload_n hx hb dX12_run_17 rfl (lv_at hl 0 rfl) ?_
              refine va_lald hx hb hK hP 14 3 rfl rfl (x_in (by decide) (by decide)) dX12_run_18 ?_
              refine lv_topl (fun j_27 ej_27 => ?_)
              refine va_last hx hb hK hP hD hS 16 3 rfl rfl (x_in (by decide) (by decide)) dX12_run_19 (fun H locs hP hD hS => ?_)
              obtain ⟨f_28, ef_28⟩ : ∃ z : Nat → Int64, z = (vp_updL f_23 (Int32.toNatClampNeg 5) j_27) := ⟨_, rfl⟩
              rw [← ef_28] at hP hD
              have hP : va_P D vwCl [(h0, .inr (11, mF ma mi mj)), ((ma 24), .inl (y 2, 10, .inl (fun _ => 0))), ((ma 62), .inl (y 2, 2, .inl (fun _ => 0))), ((ma 63), .inl (y 2, 2, .inl (fun _ => 0))), ((ma 64), .inl (y 2, 2, .inl (fun _ => 0))), ((ma 66), .inl (y 2, 2, .inl (fun _ => 0))), ((ma 67), .inl (y 2, 2, .inl (fun _ => 0))), ((ma 28), .inl (y 2, 2, .inl (fun _ => 0))), ((ma 57), .inl (y 3, 3520, .inr (.inl f0))), ((ma 58), .inl (y 3, 3520, .inr (.inl f1))), ((ma 59), .inl (y 2, 3520, .inl f2)), ((ma 60), .inl (y 2, 3520, .inl f3)), ((ma 61), .inl (y 2, 3520, .inl f4)), ((ma 71), .inl (y 2, 84, .inl fh)), ((ma 45), .inl (y 3, 8, .inr (.inl fa))), ((ma 46), .inl (y 3, 8, .inr (.inl fb))), ((ma 55), .inl (y 3, 16, .inr (.inl f_28))), ((ma 56), .inl (y 3, 16, .inr (.inl f_25)))] H := hP
              have hD : va_D A [(h0, .inr (11, mF ma mi mj)), ((ma 24), .inl (y 2, 10, .inl (fun _ => 0))), ((ma 62), .inl (y 2, 2, .inl (fun _ => 0))), ((ma 63), .inl (y 2, 2, .inl (fun _ => 0))), ((ma 64), .inl (y 2, 2, .inl (fun _ => 0))), ((ma 66), .inl (y 2, 2, .inl (fun _ => 0))), ((ma 67), .inl (y 2, 2, .inl (fun _ => 0))), ((ma 28), .inl (y 2, 2, .inl (fun _ => 0))), ((ma 57), .inl (y 3, 3520, .inr (.inl f0))), ((ma 58), .inl (y 3, 3520, .inr (.inl f1))), ((ma 59), .inl (y 2, 3520, .inl f2)), ((ma 60), .inl (y 2, 3520, .inl f3)), ((ma 61), .inl (y 2, 3520, .inl f4)), ((ma 71), .inl (y 2, 84, .inl fh)), ((ma 45), .inl (y 3, 8, .inr (.inl fa))), ((ma 46), .inl (y 3, 8, .inr (.inl fb))), ((ma 55), .inl (y 3, 16, .inr (.inl f_28))), ((ma 56), .inl (y 3, 16, .inr (.inl f_25)))] := hD
              refine lv_aload_n hx hb dX12_run_20 rfl (lv_at hl 1 rfl) ?_
              refine va_get (D := D) (ci := 11) (v := .ref (ma 56)) (C := RX12) (T := TX12) (N := 85) hx hb hts inX12 hown hK hP 0 rfl rfl 56 (by decide) fl121 (fun _ h9 => h9) rfl dX12_run_21 ?_
              refine lv_iload_n hx hb dX12_run_24 rfl (lv_at hl 0 rfl) ?_
              refine lv_aload_n hx hb dX12_run_25 rfl (lv_at hl 1 rfl) ?_
              refine va_get (D := D) (ci := 11) (v := .ref (ma 46)) (C := RX12) (T := TX12) (N := 85) hx hb hts inX12 hown hK hP 0 rfl rfl 46 (by decide) fl100 (fun _ h9 => h9) rfl dX12_run_26 ?_
              refine lv_iload_n hx hb dX12_run_29 rfl (lv_at hl 0 rfl) ?_
              refine va_lald hx hb hK hP 15 3 rfl rfl (x_in (by decide) (by decide)) dX12_run_30 ?_
              refine lv_topl (fun j_29 ej_29 => ?_)
              refine va_last hx hb hK hP hD hS 17 3 rfl rfl (x_in (by decide) (by decide)) dX12_run_31 (fun H locs hP hD hS => ?_)
              obtain ⟨f_30, ef_30⟩ : ∃ z : Nat → Int64, z = (vp_updL f_25 (Int32.toNatClampNeg 5) j_29) := ⟨_, rfl⟩
              rw [← ef_30] at hP hD
              have hP : va_P D vwCl [(h0, .inr (11, mF ma mi mj)), ((ma 24), .inl (y 2, 10, .inl (fun _ => 0))), ((ma 62), .inl (y 2, 2, .inl (fun _ => 0))), ((ma 63), .inl (y 2, 2, .inl (fun _ => 0))), ((ma 64), .inl (y 2, 2, .inl (fun _ => 0))), ((ma 66), .inl (y 2, 2, .inl (fun _ => 0))), ((ma 67), .inl (y 2, 2, .inl (fun _ => 0))), ((ma 28), .inl (y 2, 2, .inl (fun _ => 0))), ((ma 57), .inl (y 3, 3520, .inr (.inl f0))), ((ma 58), .inl (y 3, 3520, .inr (.inl f1))), ((ma 59), .inl (y 2, 3520, .inl f2)), ((ma 60), .inl (y 2, 3520, .inl f3)), ((ma 61), .inl (y 2, 3520, .inl f4)), ((ma 71), .inl (y 2, 84, .inl fh)), ((ma 45), .inl (y 3, 8, .inr (.inl fa))), ((ma 46), .inl (y 3, 8, .inr (.inl fb))), ((ma 55), .inl (y 3, 16, .inr (.inl f_28))), ((ma 56), .inl (y 3, 16, .inr (.inl f_30)))] H := hP
              have hD : va_D A [(h0, .inr (11, mF ma mi mj)), ((ma 24), .inl (y 2, 10, .inl (fun _ => 0))), ((ma 62), .inl (y 2, 2, .inl (fun _ => 0))), ((ma 63), .inl (y 2, 2, .inl (fun _ => 0))), ((ma 64), .inl (y 2, 2, .inl (fun _ => 0))), ((ma 66), .inl (y 2, 2, .inl (fun _ => 0))), ((ma 67), .inl (y 2, 2, .inl (fun _ => 0))), ((ma 28), .inl (y 2, 2, .inl (fun _ => 0))), ((ma 57), .inl (y 3, 3520, .inr (.inl f0))), ((ma 58), .inl (y 3, 3520, .inr (.inl f1))), ((ma 59), .inl (y 2, 3520, .inl f2)), ((ma 60), .inl (y 2, 3520, .inl f3)), ((ma 61), .inl (y 2, 3520, .inl f4)), ((ma 71), .inl (y 2, 84, .inl fh)), ((ma 45), .inl (y 3, 8, .inr (.inl fa))), ((ma 46), .inl (y 3, 8, .inr (.inl fb))), ((ma 55), .inl (y 3, 16, .inr (.inl f_28))), ((ma 56), .inl (y 3, 16, .inr (.inl f_30)))] := hD
              refine lv_iinc (v := 6) (lv' := [(1, .int 6), (0, .ref h0)]) hx hb dX12_run_32 hl (k := 0) rfl (by decide) (by decide) rfl (fun ls hl => ?_)
              refine lv_goto (tgt := 2) hx hb dX12_run_35 (by decide) ?_
              refine lv_iload_n hx hb dX12_run_2 rfl (lv_at hl 0 rfl) ?_
              refine lv_bipush (v := 8) hx hb dX12_run_3 (by decide) ?_
              refine lv_icmp_ge (tgt := 38) hx hb dX12_run_5 (by decide) (fun c_31 => ?_) (fun c_31 => ?_)
              · exact absurd c_31 (by decide)
              · refine lv_aload_n hx hb dX12_run_8 rfl (lv_at hl 1 rfl) ?_
                refine va_get (D := D) (ci := 11) (v := .ref (ma 55)) (C := RX12) (T := TX12) (N := 85) hx hb hts inX12 hown hK hP 0 rfl rfl 55 (by decide) fl118 (fun _ h9 => h9) rfl dX12_run_9 ?_
                refine lv_iload_n hx hb dX12_run_12 rfl (lv_at hl 0 rfl) ?_
                refine lv_aload_n hx hb dX12_run_13 rfl (lv_at hl 1 rfl) ?_
                refine va_get (D := D) (ci := 11) (v := .ref (ma 45)) (C := RX12) (T := TX12) (N := 85) hx hb hts inX12 hown hK hP 0 rfl rfl 45 (by decide) fl97 (fun _ h9 => h9) rfl dX12_run_14 ?_
                refine lv_iload_n hx hb dX12_run_17 rfl (lv_at hl 0 rfl) ?_
                refine va_lald hx hb hK hP 14 3 rfl rfl (x_in (by decide) (by decide)) dX12_run_18 ?_
                refine lv_topl (fun j_32 ej_32 => ?_)
                refine va_last hx hb hK hP hD hS 16 3 rfl rfl (x_in (by decide) (by decide)) dX12_run_19 (fun H locs hP hD hS => ?_)
                obtain ⟨f_33, ef_33⟩ : ∃ z : Nat → Int64, z = (vp_updL f_28 (Int32.toNatClampNeg 6) j_32) := ⟨_, rfl⟩
                rw [← ef_33] at hP hD
                have hP : va_P D vwCl [(h0, .inr (11, mF ma mi mj)), ((ma 24), .inl (y 2, 10, .inl (fun _ => 0))), ((ma 62), .inl (y 2, 2, .inl (fun _ => 0))), ((ma 63), .inl (y 2, 2, .inl (fun _ => 0))), ((ma 64), .inl (y 2, 2, .inl (fun _ => 0))), ((ma 66), .inl (y 2, 2, .inl (fun _ => 0))), ((ma 67), .inl (y 2, 2, .inl (fun _ => 0))), ((ma 28), .inl (y 2, 2, .inl (fun _ => 0))), ((ma 57), .inl (y 3, 3520, .inr (.inl f0))), ((ma 58), .inl (y 3, 3520, .inr (.inl f1))), ((ma 59), .inl (y 2, 3520, .inl f2)), ((ma 60), .inl (y 2, 3520, .inl f3)), ((ma 61), .inl (y 2, 3520, .inl f4)), ((ma 71), .inl (y 2, 84, .inl fh)), ((ma 45), .inl (y 3, 8, .inr (.inl fa))), ((ma 46), .inl (y 3, 8, .inr (.inl fb))), ((ma 55), .inl (y 3, 16, .inr (.inl f_33))), ((ma 56), .inl (y 3, 16, .inr (.inl f_30)))] H := hP
                have hD : va_D A [(h0, .inr (11, mF ma mi mj)), ((ma 24), .inl (y 2, 10, .inl (fun _ => 0))), ((ma 62), .inl (y 2, 2, .inl (fun _ => 0))), ((ma 63), .inl (y 2, 2, .inl (fun _ => 0))), ((ma 64), .inl (y 2, 2, .inl (fun _ => 0))), ((ma 66), .inl (y 2, 2, .inl (fun _ => 0))), ((ma 67), .inl (y 2, 2, .inl (fun _ => 0))), ((ma 28), .inl (y 2, 2, .inl (fun _ => 0))), ((ma 57), .inl (y 3, 3520, .inr (.inl f0))), ((ma 58), .inl (y 3, 3520, .inr (.inl f1))), ((ma 59), .inl (y 2, 3520, .inl f2)), ((ma 60), .inl (y 2, 3520, .inl f3)), ((ma 61), .inl (y 2, 3520, .inl f4)), ((ma 71), .inl (y 2, 84, .inl fh)), ((ma 45), .inl (y 3, 8, .inr (.inl fa))), ((ma 46), .inl (y 3, 8, .inr (.inl fb))), ((ma 55), .inl (y 3, 16, .inr (.inl f_33))), ((ma 56), .inl (y 3, 16, .inr (.inl f_30)))] := hD
                refine lv_aload_n hx hb dX12_run_20 rfl (lv_at hl 1 rfl) ?_
                refine va_get (D := D) (ci := 11) (v := .ref (ma 56)) (C := RX12) (T := TX12) (N := 85) hx hb hts inX12 hown hK hP 0 rfl rfl 56 (by decide) fl121 (fun _ h9 => h9) rfl dX12_run_21 ?_
                refine lv_iload_n hx hb dX12_run_24 rfl (lv_at hl 0 rfl) ?_
                refine lv_aload_n hx hb dX12_run_25 rfl (lv_at hl 1 rfl) ?_
                refine va_get (D := D) (ci := 11) (v := .ref (ma 46)) (C := RX12) (T := TX12) (N := 85) hx hb hts inX12 hown hK hP 0 rfl rfl 46 (by decide) fl100 (fun _ h9 => h9) rfl dX12_run_26 ?_
                refine lv_iload_n hx hb dX12_run_29 rfl (lv_at hl 0 rfl) ?_
                refine va_lald hx hb hK hP 15 3 rfl rfl (x_in (by decide) (by decide)) dX12_run_30 ?_
                refine lv_topl (fun j_34 ej_34 => ?_)
                refine va_last hx hb hK hP hD hS 17 3 rfl rfl (x_in (by decide) (by decide)) dX12_run_31 (fun H locs hP hD hS => ?_)
                obtain ⟨f_35, ef_35⟩ : ∃ z : Nat → Int64, z = (vp_updL f_30 (Int32.toNatClampNeg 6) j_34) := ⟨_, rfl⟩
                rw [← ef_35] at hP hD
                have hP : va_P D vwCl [(h0, .inr (11, mF ma mi mj)), ((ma 24), .inl (y 2, 10, .inl (fun _ => 0))), ((ma 62), .inl (y 2, 2, .inl (fun _ => 0))), ((ma 63), .inl (y 2, 2, .inl (fun _ => 0))), ((ma 64), .inl (y 2, 2, .inl (fun _ => 0))), ((ma 66), .inl (y 2, 2, .inl (fun _ => 0))), ((ma 67), .inl (y 2, 2, .inl (fun _ => 0))), ((ma 28), .inl (y 2, 2, .inl (fun _ => 0))), ((ma 57), .inl (y 3, 3520, .inr (.inl f0))), ((ma 58), .inl (y 3, 3520, .inr (.inl f1))), ((ma 59), .inl (y 2, 3520, .inl f2)), ((ma 60), .inl (y 2, 3520, .inl f3)), ((ma 61), .inl (y 2, 3520, .inl f4)), ((ma 71), .inl (y 2, 84, .inl fh)), ((ma 45), .inl (y 3, 8, .inr (.inl fa))), ((ma 46), .inl (y 3, 8, .inr (.inl fb))), ((ma 55), .inl (y 3, 16, .inr (.inl f_33))), ((ma 56), .inl (y 3, 16, .inr (.inl f_35)))] H := hP
                have hD : va_D A [(h0, .inr (11, mF ma mi mj)), ((ma 24), .inl (y 2, 10, .inl (fun _ => 0))), ((ma 62), .inl (y 2, 2, .inl (fun _ => 0))), ((ma 63), .inl (y 2, 2, .inl (fun _ => 0))), ((ma 64), .inl (y 2, 2, .inl (fun _ => 0))), ((ma 66), .inl (y 2, 2, .inl (fun _ => 0))), ((ma 67), .inl (y 2, 2, .inl (fun _ => 0))), ((ma 28), .inl (y 2, 2, .inl (fun _ => 0))), ((ma 57), .inl (y 3, 3520, .inr (.inl f0))), ((ma 58), .inl (y 3, 3520, .inr (.inl f1))), ((ma 59), .inl (y 2, 3520, .inl f2)), ((ma 60), .inl (y 2, 3520, .inl f3)), ((ma 61), .inl (y 2, 3520, .inl f4)), ((ma 71), .inl (y 2, 84, .inl fh)), ((ma 45), .inl (y 3, 8, .inr (.inl fa))), ((ma 46), .inl (y 3, 8, .inr (.inl fb))), ((ma 55), .inl (y 3, 16, .inr (.inl f_33))), ((ma 56), .inl (y 3, 16, .inr (.inl f_35)))] := hD
                refine lv_iinc (v := 7) (lv' := [(1, .int 7), (0, .ref h0)]) hx hb dX12_run_32 hl (k := 0) rfl (by decide) (by decide) rfl (fun ls hl => ?_)
                refine lv_goto (tgt := 2) hx hb dX12_run_35 (by decide) ?_
                refine lv_iload_n hx hb dX12_run_2 rfl (lv_at hl 0 rfl) ?_
                refine lv_bipush (v := 8) hx hb dX12_run_3 (by decide) ?_
                refine lv_icmp_ge (tgt := 38) hx hb dX12_run_5 (by decide) (fun c_36 => ?_) (fun c_36 => ?_)
                · exact absurd c_36 (by decide)
                · refine lv_aload_n hx hb dX12_run_8 rfl (lv_at hl 1 rfl) ?_
                  refine va_get (D := D) (ci := 11) (v := .ref (ma 55)) (C := RX12) (T := TX12) (N := 85) hx hb hts inX12 hown hK hP 0 rfl rfl 55 (by decide) fl118 (fun _ h9 => h9) rfl dX12_run_9 ?_
                  refine lv_iload_n hx hb dX12_run_12 rfl (lv_at hl 0 rfl) ?_
                  refine lv_aload_n hx hb dX12_run_13 rfl (lv_at hl 1 rfl) ?_
                  refine va_get (D := D) (ci := 11) (v := .ref (ma 45)) (C := RX12) (T := TX12) (N := 85) hx hb hts inX12 hown hK hP 0 rfl rfl 45 (by decide) fl97 (fun _ h9 => h9) rfl dX12_run_14 ?_
                  refine lv_iload_n hx hb dX12_run_17 rfl (lv_at hl 0 rfl) ?_
                  refine va_lald hx hb hK hP 14 3 rfl rfl (x_in (by decide) (by decide)) dX12_run_18 ?_
                  refine lv_topl (fun j_37 ej_37 => ?_)
                  refine va_last hx hb hK hP hD hS 16 3 rfl rfl (x_in (by decide) (by decide)) dX12_run_19 (fun H locs hP hD hS => ?_)
                  obtain ⟨f_38, ef_38⟩ : ∃ z : Nat → Int64, z = (vp_updL f_33 (Int32.toNatClampNeg 7) j_37) := ⟨_, rfl⟩
                  rw [← ef_38] at hP hD
                  have hP : va_P D vwCl [(h0, .inr (11, mF ma mi mj)), ((ma 24), .inl (y 2, 10, .inl (fun _ => 0))), ((ma 62), .inl (y 2, 2, .inl (fun _ => 0))), ((ma 63), .inl (y 2, 2, .inl (fun _ => 0))), ((ma 64), .inl (y 2, 2, .inl (fun _ => 0))), ((ma 66), .inl (y 2, 2, .inl (fun _ => 0))), ((ma 67), .inl (y 2, 2, .inl (fun _ => 0))), ((ma 28), .inl (y 2, 2, .inl (fun _ => 0))), ((ma 57), .inl (y 3, 3520, .inr (.inl f0))), ((ma 58), .inl (y 3, 3520, .inr (.inl f1))), ((ma 59), .inl (y 2, 3520, .inl f2)), ((ma 60), .inl (y 2, 3520, .inl f3)), ((ma 61), .inl (y 2, 3520, .inl f4)), ((ma 71), .inl (y 2, 84, .inl fh)), ((ma 45), .inl (y 3, 8, .inr (.inl fa))), ((ma 46), .inl (y 3, 8, .inr (.inl fb))), ((ma 55), .inl (y 3, 16, .inr (.inl f_38))), ((ma 56), .inl (y 3, 16, .inr (.inl f_35)))] H := hP
                  have hD : va_D A [(h0, .inr (11, mF ma mi mj)), ((ma 24), .inl (y 2, 10, .inl (fun _ => 0))), ((ma 62), .inl (y 2, 2, .inl (fun _ => 0))), ((ma 63), .inl (y 2, 2, .inl (fun _ => 0))), ((ma 64), .inl (y 2, 2, .inl (fun _ => 0))), ((ma 66), .inl (y 2, 2, .inl (fun _ => 0))), ((ma 67), .inl (y 2, 2, .inl (fun _ => 0))), ((ma 28), .inl (y 2, 2, .inl (fun _ => 0))), ((ma 57), .inl (y 3, 3520, .inr (.inl f0))), ((ma 58), .inl (y 3, 3520, .inr (.inl f1))), ((ma 59), .inl (y 2, 3520, .inl f2)), ((ma 60), .inl (y 2, 3520, .inl f3)), ((ma 61), .inl (y 2, 3520, .inl f4)), ((ma 71), .inl (y 2, 84, .inl fh)), ((ma 45), .inl (y 3, 8, .inr (.inl fa))), ((ma 46), .inl (y 3, 8, .inr (.inl fb))), ((ma 55), .inl (y 3, 16, .inr (.inl f_38))), ((ma 56), .inl (y 3, 16, .inr (.inl f_35)))] := hD
                  refine lv_aload_n hx hb dX12_run_20 rfl (lv_at hl 1 rfl) ?_
                  refine va_get (D := D) (ci := 11) (v := .ref (ma 56)) (C := RX12) (T := TX12) (N := 85) hx hb hts inX12 hown hK hP 0 rfl rfl 56 (by decide) fl121 (fun _ h9 => h9) rfl dX12_run_21 ?_
                  refine lv_iload_n hx hb dX12_run_24 rfl (lv_at hl 0 rfl) ?_
                  refine lv_aload_n hx hb dX12_run_25 rfl (lv_at hl 1 rfl) ?_
                  refine va_get (D := D) (ci := 11) (v := .ref (ma 46)) (C := RX12) (T := TX12) (N := 85) hx hb hts inX12 hown hK hP 0 rfl rfl 46 (by decide) fl100 (fun _ h9 => h9) rfl dX12_run_26 ?_
                  refine lv_iload_n hx hb dX12_run_29 rfl (lv_at hl 0 rfl) ?_
                  refine va_lald hx hb hK hP 15 3 rfl rfl (x_in (by decide) (by decide)) dX12_run_30 ?_
                  refine lv_topl (fun j_39 ej_39 => ?_)
                  refine va_last hx hb hK hP hD hS 17 3 rfl rfl (x_in (by decide) (by decide)) dX12_run_31 (fun H locs hP hD hS => ?_)
                  obtain ⟨f_40, ef_40⟩ : ∃ z : Nat → Int64, z = (vp_updL f_35 (Int32.toNatClampNeg 7) j_39) := ⟨_, rfl⟩
                  rw [← ef_40] at hP hD
                  have hP : va_P D vwCl [(h0, .inr (11, mF ma mi mj)), ((ma 24), .inl (y 2, 10, .inl (fun _ => 0))), ((ma 62), .inl (y 2, 2, .inl (fun _ => 0))), ((ma 63), .inl (y 2, 2, .inl (fun _ => 0))), ((ma 64), .inl (y 2, 2, .inl (fun _ => 0))), ((ma 66), .inl (y 2, 2, .inl (fun _ => 0))), ((ma 67), .inl (y 2, 2, .inl (fun _ => 0))), ((ma 28), .inl (y 2, 2, .inl (fun _ => 0))), ((ma 57), .inl (y 3, 3520, .inr (.inl f0))), ((ma 58), .inl (y 3, 3520, .inr (.inl f1))), ((ma 59), .inl (y 2, 3520, .inl f2)), ((ma 60), .inl (y 2, 3520, .inl f3)), ((ma 61), .inl (y 2, 3520, .inl f4)), ((ma 71), .inl (y 2, 84, .inl fh)), ((ma 45), .inl (y 3, 8, .inr (.inl fa))), ((ma 46), .inl (y 3, 8, .inr (.inl fb))), ((ma 55), .inl (y 3, 16, .inr (.inl f_38))), ((ma 56), .inl (y 3, 16, .inr (.inl f_40)))] H := hP
                  have hD : va_D A [(h0, .inr (11, mF ma mi mj)), ((ma 24), .inl (y 2, 10, .inl (fun _ => 0))), ((ma 62), .inl (y 2, 2, .inl (fun _ => 0))), ((ma 63), .inl (y 2, 2, .inl (fun _ => 0))), ((ma 64), .inl (y 2, 2, .inl (fun _ => 0))), ((ma 66), .inl (y 2, 2, .inl (fun _ => 0))), ((ma 67), .inl (y 2, 2, .inl (fun _ => 0))), ((ma 28), .inl (y 2, 2, .inl (fun _ => 0))), ((ma 57), .inl (y 3, 3520, .inr (.inl f0))), ((ma 58), .inl (y 3, 3520, .inr (.inl f1))), ((ma 59), .inl (y 2, 3520, .inl f2)), ((ma 60), .inl (y 2, 3520, .inl f3)), ((ma 61), .inl (y 2, 3520, .inl f4)), ((ma 71), .inl (y 2, 84, .inl fh)), ((ma 45), .inl (y 3, 8, .inr (.inl fa))), ((ma 46), .inl (y 3, 8, .inr (.inl fb))), ((ma 55), .inl (y 3, 16, .inr (.inl f_38))), ((ma 56), .inl (y 3, 16, .inr (.inl f_40)))] := hD
                  refine lv_iinc (v := 8) (lv' := [(1, .int 8), (0, .ref h0)]) hx hb dX12_run_32 hl (k := 0) rfl (by decide) (by decide) rfl (fun ls hl => ?_)
                  refine lv_goto (tgt := 2) hx hb dX12_run_35 (by decide) ?_
                  refine lv_iload_n hx hb dX12_run_2 rfl (lv_at hl 0 rfl) ?_
                  refine lv_bipush (v := 8) hx hb dX12_run_3 (by decide) ?_
                  refine lv_icmp_ge (tgt := 38) hx hb dX12_run_5 (by decide) (fun c_41 => ?_) (fun c_41 => ?_)
                  · refine lv_aload_n hx hb dX12_run_38 rfl (lv_at hl 1 rfl) ?_
                    refine lv_iconst (v := 0) hx hb dX12_run_39 (by decide) ?_
                    refine x_callv (w1 := fun (u : (Nat → Int32) × (Nat → Int64) × (Nat → Int64) × (Nat → Int32) × (Nat → Int32) × (Nat → Int32) × (Nat → Int32)) => [(h0, .inr (11, mF ma (upd (upd mi 68 0) 73 0) mj)), ((ma 24), .inl (y 2, 10, .inl (fun _ => 0))), ((ma 62), .inl (y 2, 2, .inl u.1)), ((ma 63), .inl (y 2, 2, .inl (upd (fun _ => 0) (Int32.toNatClampNeg 0) 0))), ((ma 64), .inl (y 2, 2, .inl (upd (fun _ => 0) (Int32.toNatClampNeg 0) 0))), ((ma 66), .inl (y 2, 2, .inl (upd (fun _ => 0) (Int32.toNatClampNeg 0) 0))), ((ma 67), .inl (y 2, 2, .inl (upd (fun _ => 0) (Int32.toNatClampNeg 0) 0))), ((ma 28), .inl (y 2, 2, .inl (fun _ => 0))), ((ma 57), .inl (y 3, 3520, .inr (.inl u.2.1))), ((ma 58), .inl (y 3, 3520, .inr (.inl u.2.2.1))), ((ma 59), .inl (y 2, 3520, .inl u.2.2.2.1)), ((ma 60), .inl (y 2, 3520, .inl u.2.2.2.2.1)), ((ma 61), .inl (y 2, 3520, .inl u.2.2.2.2.2.1)), ((ma 71), .inl (y 2, 84, .inl u.2.2.2.2.2.2))]) (wr := [((ma 45), .inl (y 3, 8, .inr (.inl fa))), ((ma 46), .inl (y 3, 8, .inr (.inl fb))), ((ma 55), .inl (y 3, 16, .inr (.inl f_38))), ((ma 56), .inl (y 3, 16, .inr (.inl f_40)))]) (ws' := fun (u : (Nat → Int32) × (Nat → Int64) × (Nat → Int64) × (Nat → Int32) × (Nat → Int32) × (Nat → Int32) × (Nat → Int32)) => [(h0, .inr (11, mF ma (upd (upd mi 68 0) 73 0) mj)), ((ma 24), .inl (y 2, 10, .inl (fun _ => 0))), ((ma 62), .inl (y 2, 2, .inl u.1)), ((ma 63), .inl (y 2, 2, .inl (upd (fun _ => 0) (Int32.toNatClampNeg 0) 0))), ((ma 64), .inl (y 2, 2, .inl (upd (fun _ => 0) (Int32.toNatClampNeg 0) 0))), ((ma 66), .inl (y 2, 2, .inl (upd (fun _ => 0) (Int32.toNatClampNeg 0) 0))), ((ma 67), .inl (y 2, 2, .inl (upd (fun _ => 0) (Int32.toNatClampNeg 0) 0))), ((ma 28), .inl (y 2, 2, .inl (fun _ => 0))), ((ma 57), .inl (y 3, 3520, .inr (.inl u.2.1))), ((ma 58), .inl (y 3, 3520, .inr (.inl u.2.2.1))), ((ma 59), .inl (y 2, 3520, .inl u.2.2.2.1)), ((ma 60), .inl (y 2, 3520, .inl u.2.2.2.2.1)), ((ma 61), .inl (y 2, 3520, .inl u.2.2.2.2.2.1)), ((ma 71), .inl (y 2, 84, .inl u.2.2.2.2.2.2)), ((ma 45), .inl (y 3, 8, .inr (.inl fa))), ((ma 46), .inl (y 3, 8, .inr (.inl fb))), ((ma 55), .inl (y 3, 16, .inr (.inl f_38))), ((ma 56), .inl (y 3, 16, .inr (.inl f_40)))]) (va_runV (As := [.int 0]) (rest := []) ⟨hx, hb, hml, hown, hts⟩ (m_goes0 l D y H.size h0 ma mi mj f2 f3 f4 fh f0 f1) (cwV 1 hts g_m_run0_0 rfl rfl rfl (by decide +kernel) ⟨Nat.le_of_ble_eq_true rfl, Nat.le_of_ble_eq_true rfl⟩) (x_preV (q := (RX12, TX12, 85)) hK (x_subP hP [0, 1, 2, 3, 4, 5, 6, 7, 8, 9, 10, 11, 12, 13] rfl) (x_subD hD [0, 1, 2, 3, 4, 5, 6, 7, 8, 9, 10, 11, 12, 13] rfl (by decide)) (ci := 11) (q0 := 0) rfl rfl) rfl rfl hl.1 rfl (lv_room (Nat.le_of_ble_eq_true rfl)) dX12_run_40 ⟨Nat.le_of_ble_eq_true rfl, Nat.le_of_ble_eq_true rfl⟩) hP hD hS hA [0, 1, 2, 3, 4, 5, 6, 7, 8, 9, 10, 11, 12, 13] [14, 15, 16, 17] rfl rfl (by decide) (by decide) [4, 5, 6, 7, 8, 9, 10, 11, 12, 13, 14, 15, 16, 17, 0, 1, 2, 3] (fun _ => rfl) (by decide) (fun u H locs hw hP hD hS => ?_)
                    obtain ⟨f_42, f_43, f_44, f_45, f_46, f_47, f_48⟩ := u
                    try dsimp only at hw
                    have hP : va_P D vwCl [(h0, .inr (11, mF ma (upd (upd mi 68 0) 73 0) mj)), ((ma 24), .inl (y 2, 10, .inl (fun _ => 0))), ((ma 62), .inl (y 2, 2, .inl f_42)), ((ma 63), .inl (y 2, 2, .inl (upd (fun _ => 0) (Int32.toNatClampNeg 0) 0))), ((ma 64), .inl (y 2, 2, .inl (upd (fun _ => 0) (Int32.toNatClampNeg 0) 0))), ((ma 66), .inl (y 2, 2, .inl (upd (fun _ => 0) (Int32.toNatClampNeg 0) 0))), ((ma 67), .inl (y 2, 2, .inl (upd (fun _ => 0) (Int32.toNatClampNeg 0) 0))), ((ma 28), .inl (y 2, 2, .inl (fun _ => 0))), ((ma 57), .inl (y 3, 3520, .inr (.inl f_43))), ((ma 58), .inl (y 3, 3520, .inr (.inl f_44))), ((ma 59), .inl (y 2, 3520, .inl f_45)), ((ma 60), .inl (y 2, 3520, .inl f_46)), ((ma 61), .inl (y 2, 3520, .inl f_47)), ((ma 71), .inl (y 2, 84, .inl f_48)), ((ma 45), .inl (y 3, 8, .inr (.inl fa))), ((ma 46), .inl (y 3, 8, .inr (.inl fb))), ((ma 55), .inl (y 3, 16, .inr (.inl f_38))), ((ma 56), .inl (y 3, 16, .inr (.inl f_40)))] H := hP
                    have hD : va_D A [(h0, .inr (11, mF ma (upd (upd mi 68 0) 73 0) mj)), ((ma 24), .inl (y 2, 10, .inl (fun _ => 0))), ((ma 62), .inl (y 2, 2, .inl f_42)), ((ma 63), .inl (y 2, 2, .inl (upd (fun _ => 0) (Int32.toNatClampNeg 0) 0))), ((ma 64), .inl (y 2, 2, .inl (upd (fun _ => 0) (Int32.toNatClampNeg 0) 0))), ((ma 66), .inl (y 2, 2, .inl (upd (fun _ => 0) (Int32.toNatClampNeg 0) 0))), ((ma 67), .inl (y 2, 2, .inl (upd (fun _ => 0) (Int32.toNatClampNeg 0) 0))), ((ma 28), .inl (y 2, 2, .inl (fun _ => 0))), ((ma 57), .inl (y 3, 3520, .inr (.inl f_43))), ((ma 58), .inl (y 3, 3520, .inr (.inl f_44))), ((ma 59), .inl (y 2, 3520, .inl f_45)), ((ma 60), .inl (y 2, 3520, .inl f_46)), ((ma 61), .inl (y 2, 3520, .inl f_47)), ((ma 71), .inl (y 2, 84, .inl f_48)), ((ma 45), .inl (y 3, 8, .inr (.inl fa))), ((ma 46), .inl (y 3, 8, .inr (.inl fb))), ((ma 55), .inl (y 3, 16, .inr (.inl f_38))), ((ma 56), .inl (y 3, 16, .inr (.inl f_40)))] := hD
                    refine lv_aload_n hx hb dX12_run_43 rfl (lv_at hl 1 rfl) ?_
                    refine lv_iconst (v := 1) hx hb dX12_run_44 (by decide) ?_
                    refine va_put (D := D) (ci := 11) (v := .int 1) (ty := .boolean) (C := RX12) (T := TX12) (N := 85) hx hb hts inX12 tyX12 tyX12_ok nmX12 hown hK hP hD hS 0 rfl rfl 54 (by decide) fl371 (fun _ h9 => h9) rfl (by decide +kernel) rfl rfl (Nat.le_of_ble_eq_true rfl) dX12_run_45 (fun H locs hP hD hS => ?_)
                    have hP : va_P D vwCl [(h0, .inr (11, mF ma (upd (upd (upd mi 54 1) 68 0) 73 0) mj)), ((ma 24), .inl (y 2, 10, .inl (fun _ => 0))), ((ma 62), .inl (y 2, 2, .inl f_42)), ((ma 63), .inl (y 2, 2, .inl (upd (fun _ => 0) (Int32.toNatClampNeg 0) 0))), ((ma 64), .inl (y 2, 2, .inl (upd (fun _ => 0) (Int32.toNatClampNeg 0) 0))), ((ma 66), .inl (y 2, 2, .inl (upd (fun _ => 0) (Int32.toNatClampNeg 0) 0))), ((ma 67), .inl (y 2, 2, .inl (upd (fun _ => 0) (Int32.toNatClampNeg 0) 0))), ((ma 28), .inl (y 2, 2, .inl (fun _ => 0))), ((ma 57), .inl (y 3, 3520, .inr (.inl f_43))), ((ma 58), .inl (y 3, 3520, .inr (.inl f_44))), ((ma 59), .inl (y 2, 3520, .inl f_45)), ((ma 60), .inl (y 2, 3520, .inl f_46)), ((ma 61), .inl (y 2, 3520, .inl f_47)), ((ma 71), .inl (y 2, 84, .inl f_48)), ((ma 45), .inl (y 3, 8, .inr (.inl fa))), ((ma 46), .inl (y 3, 8, .inr (.inl fb))), ((ma 55), .inl (y 3, 16, .inr (.inl f_38))), ((ma 56), .inl (y 3, 16, .inr (.inl f_40)))] H := hP
                    have hD : va_D A [(h0, .inr (11, mF ma (upd (upd (upd mi 54 1) 68 0) 73 0) mj)), ((ma 24), .inl (y 2, 10, .inl (fun _ => 0))), ((ma 62), .inl (y 2, 2, .inl f_42)), ((ma 63), .inl (y 2, 2, .inl (upd (fun _ => 0) (Int32.toNatClampNeg 0) 0))), ((ma 64), .inl (y 2, 2, .inl (upd (fun _ => 0) (Int32.toNatClampNeg 0) 0))), ((ma 66), .inl (y 2, 2, .inl (upd (fun _ => 0) (Int32.toNatClampNeg 0) 0))), ((ma 67), .inl (y 2, 2, .inl (upd (fun _ => 0) (Int32.toNatClampNeg 0) 0))), ((ma 28), .inl (y 2, 2, .inl (fun _ => 0))), ((ma 57), .inl (y 3, 3520, .inr (.inl f_43))), ((ma 58), .inl (y 3, 3520, .inr (.inl f_44))), ((ma 59), .inl (y 2, 3520, .inl f_45)), ((ma 60), .inl (y 2, 3520, .inl f_46)), ((ma 61), .inl (y 2, 3520, .inl f_47)), ((ma 71), .inl (y 2, 84, .inl f_48)), ((ma 45), .inl (y 3, 8, .inr (.inl fa))), ((ma 46), .inl (y 3, 8, .inr (.inl fb))), ((ma 55), .inl (y 3, 16, .inr (.inl f_38))), ((ma 56), .inl (y 3, 16, .inr (.inl f_40)))] := hD
                    refine lv_aload_n hx hb dX12_run_48 rfl (lv_at hl 1 rfl) ?_
                    refine va_get (D := D) (ci := 11) (v := .ref (ma 67)) (C := RX12) (T := TX12) (N := 85) hx hb hts inX12 hown hK hP 0 rfl rfl 67 (by decide) fl154 (fun _ h9 => h9) rfl dX12_run_49 ?_
                    refine lv_iconst (v := 0) hx hb dX12_run_52 (by decide) ?_
                    refine va_iald hx hb hK hP 6 2 rfl rfl (x_in (by decide) (by decide)) dX12_run_53 ?_
                    refine lv_topi (fun i_49 ei_49 => ?_)
                    obtain rfl : i_49 = 0 := ei_49.trans (by rfl)
                    exact x_iret (v := 0) (u := (f_42, f_43, f_44, f_45, f_46, f_47, f_48, f_38, f_40)) hx hb hr rfl hP hD hK hS [0, 1, 2, 3, 4, 5, 6, 7, 8, 9, 10, 11, 12, 13, 14, 15, 16, 17] rfl (by decide) dX12_run_54 hlocks hQ
                  · exact absurd (by decide) c_41

