theorem goodIn_cons {a : Cond} {big ws : List Cond} (h : GoodIn big ws) : GoodIn (a :: big) ws := fun w hw => ⟨List.mem_cons_of_mem _ (h w hw).1, (h w hw).2⟩
theorem goodIn_cl {a : Cond} {CL : List Cond} {own C : String} {idx : Nat} {y : MethodName} {bytes : ByteArray} {maxL : Nat} {ret : Option FieldType} (hg : GoodIn CL CL) (h1 : Cond.methodLink own idx y ∈ CL) (h2 : Cond.instanceMethod y ∈ CL) (h3 : Cond.selects C y y ∈ CL) (h4 : Cond.initialized C ∈ CL) (h5 : Cond.code y bytes maxL ret ∈ CL) : GoodIn (a :: CL) (wsV own idx C y (Cond.code y bytes maxL ret :: CL)) := by
  intro w hw
  have h : w ∈ CL := by
    unfold wsV at hw
    rw [List.mem_append] at hw
    rcases hw with hw | hw
    · simp only [List.mem_cons, List.not_mem_nil, or_false] at hw
      rcases hw with rfl | rfl | rfl | rfl <;> assumption
    · rcases List.mem_cons.mp hw with rfl | hw
      · exact h5
      · exact hw
  exact ⟨List.mem_cons_of_mem _ h, (hg w h).2⟩

theorem dX5_sum_0 : decode cX5_sum 0 = .ok (.aload_n 0, 1) := by decide +kernel
theorem dX5_sum_1 : decode cX5_sum 1 = .ok (.invokevirtual 184, 3) := by decide +kernel
theorem dX5_sum_4 : decode cX5_sum 4 = .ok (.ifCond .ne 5, 3) := by decide +kernel
theorem dX5_sum_7 : decode cX5_sum 7 = .ok (.iconst 0, 1) := by decide +kernel
theorem dX5_sum_8 : decode cX5_sum 8 = .ok (.ireturn, 1) := by decide +kernel
theorem dX5_sum_9 : decode cX5_sum 9 = .ok (.iconst 0, 1) := by decide +kernel
theorem dX5_sum_10 : decode cX5_sum 10 = .ok (.istore_n 1, 1) := by decide +kernel
theorem dX5_sum_11 : decode cX5_sum 11 = .ok (.iload_n 1, 1) := by decide +kernel
theorem dX5_sum_12 : decode cX5_sum 12 = .ok (.sipush 700, 3) := by decide +kernel
theorem dX5_sum_15 : decode cX5_sum 15 = .ok (.if_icmp .ge 66, 3) := by decide +kernel
theorem dX5_sum_18 : decode cX5_sum 18 = .ok (.aload_n 0, 1) := by decide +kernel
theorem dX5_sum_19 : decode cX5_sum 19 = .ok (.getfield 45, 3) := by decide +kernel
theorem dX5_sum_22 : decode cX5_sum 22 = .ok (.bipush 43, 2) := by decide +kernel
theorem dX5_sum_24 : decode cX5_sum 24 = .ok (.if_icmp .eq 12, 3) := by decide +kernel
theorem dX5_sum_27 : decode cX5_sum 27 = .ok (.aload_n 0, 1) := by decide +kernel
theorem dX5_sum_28 : decode cX5_sum 28 = .ok (.getfield 45, 3) := by decide +kernel
theorem dX5_sum_31 : decode cX5_sum 31 = .ok (.bipush 45, 2) := by decide +kernel
theorem dX5_sum_33 : decode cX5_sum 33 = .ok (.if_icmp .ne 48, 3) := by decide +kernel
theorem dX5_sum_36 : decode cX5_sum 36 = .ok (.aload_n 0, 1) := by decide +kernel
theorem dX5_sum_37 : decode cX5_sum 37 = .ok (.getfield 45, 3) := by decide +kernel
theorem dX5_sum_40 : decode cX5_sum 40 = .ok (.bipush 43, 2) := by decide +kernel
theorem dX5_sum_42 : decode cX5_sum 42 = .ok (.if_icmp .ne 8, 3) := by decide +kernel
theorem dX5_sum_45 : decode cX5_sum 45 = .ok (.bipush 6, 2) := by decide +kernel
theorem dX5_sum_47 : decode cX5_sum 47 = .ok (.goto 5, 3) := by decide +kernel
theorem dX5_sum_50 : decode cX5_sum 50 = .ok (.bipush 7, 2) := by decide +kernel
theorem dX5_sum_52 : decode cX5_sum 52 = .ok (.istore_n 2, 1) := by decide +kernel
theorem dX5_sum_53 : decode cX5_sum 53 = .ok (.aload_n 0, 1) := by decide +kernel
theorem dX5_sum_54 : decode cX5_sum 54 = .ok (.invokevirtual 86, 3) := by decide +kernel
theorem dX5_sum_57 : decode cX5_sum 57 = .ok (.aload_n 0, 1) := by decide +kernel
theorem dX5_sum_58 : decode cX5_sum 58 = .ok (.invokevirtual 184, 3) := by decide +kernel
theorem dX5_sum_61 : decode cX5_sum 61 = .ok (.ifCond .ne 5, 3) := by decide +kernel
theorem dX5_sum_64 : decode cX5_sum 64 = .ok (.iconst 0, 1) := by decide +kernel
theorem dX5_sum_65 : decode cX5_sum 65 = .ok (.ireturn, 1) := by decide +kernel
theorem dX5_sum_66 : decode cX5_sum 66 = .ok (.aload_n 0, 1) := by decide +kernel
theorem dX5_sum_67 : decode cX5_sum 67 = .ok (.getfield 34, 3) := by decide +kernel
theorem dX5_sum_70 : decode cX5_sum 70 = .ok (.iload_n 2, 1) := by decide +kernel
theorem dX5_sum_71 : decode cX5_sum 71 = .ok (.iconst 0, 1) := by decide +kernel
theorem dX5_sum_72 : decode cX5_sum 72 = .ok (.invokevirtual 155, 3) := by decide +kernel
theorem dX5_sum_75 : decode cX5_sum 75 = .ok (.iinc 1 1, 3) := by decide +kernel
theorem dX5_sum_78 : decode cX5_sum 78 = .ok (.goto (-67), 3) := by decide +kernel
theorem dX5_sum_81 : decode cX5_sum 81 = .ok (.iconst 1, 1) := by decide +kernel
theorem dX5_sum_82 : decode cX5_sum 82 = .ok (.ireturn, 1) := by decide +kernel
theorem dX5_product_0 : decode cX5_product 0 = .ok (.aload_n 0, 1) := by decide +kernel
theorem dX5_product_1 : decode cX5_product 1 = .ok (.invokevirtual 187, 3) := by decide +kernel
theorem dX5_product_4 : decode cX5_product 4 = .ok (.ifCond .ne 5, 3) := by decide +kernel
theorem dX5_product_7 : decode cX5_product 7 = .ok (.iconst 0, 1) := by decide +kernel
theorem dX5_product_8 : decode cX5_product 8 = .ok (.ireturn, 1) := by decide +kernel
theorem dX5_product_9 : decode cX5_product 9 = .ok (.iconst 0, 1) := by decide +kernel
theorem dX5_product_10 : decode cX5_product 10 = .ok (.istore_n 1, 1) := by decide +kernel
theorem dX5_product_11 : decode cX5_product 11 = .ok (.iload_n 1, 1) := by decide +kernel
theorem dX5_product_12 : decode cX5_product 12 = .ok (.sipush 700, 3) := by decide +kernel
theorem dX5_product_15 : decode cX5_product 15 = .ok (.if_icmp .ge 66, 3) := by decide +kernel
theorem dX5_product_18 : decode cX5_product 18 = .ok (.aload_n 0, 1) := by decide +kernel
theorem dX5_product_19 : decode cX5_product 19 = .ok (.getfield 45, 3) := by decide +kernel
theorem dX5_product_22 : decode cX5_product 22 = .ok (.bipush 42, 2) := by decide +kernel
theorem dX5_product_24 : decode cX5_product 24 = .ok (.if_icmp .eq 12, 3) := by decide +kernel
theorem dX5_product_27 : decode cX5_product 27 = .ok (.aload_n 0, 1) := by decide +kernel
theorem dX5_product_28 : decode cX5_product 28 = .ok (.getfield 45, 3) := by decide +kernel
theorem dX5_product_31 : decode cX5_product 31 = .ok (.bipush 47, 2) := by decide +kernel
theorem dX5_product_33 : decode cX5_product 33 = .ok (.if_icmp .ne 48, 3) := by decide +kernel
theorem dX5_product_36 : decode cX5_product 36 = .ok (.aload_n 0, 1) := by decide +kernel
theorem dX5_product_37 : decode cX5_product 37 = .ok (.getfield 45, 3) := by decide +kernel
theorem dX5_product_40 : decode cX5_product 40 = .ok (.bipush 42, 2) := by decide +kernel
theorem dX5_product_42 : decode cX5_product 42 = .ok (.if_icmp .ne 8, 3) := by decide +kernel
theorem dX5_product_45 : decode cX5_product 45 = .ok (.bipush 8, 2) := by decide +kernel
theorem dX5_product_47 : decode cX5_product 47 = .ok (.goto 5, 3) := by decide +kernel
theorem dX5_product_50 : decode cX5_product 50 = .ok (.bipush 9, 2) := by decide +kernel
theorem dX5_product_52 : decode cX5_product 52 = .ok (.istore_n 2, 1) := by decide +kernel
theorem dX5_product_53 : decode cX5_product 53 = .ok (.aload_n 0, 1) := by decide +kernel
theorem dX5_product_54 : decode cX5_product 54 = .ok (.invokevirtual 86, 3) := by decide +kernel
theorem dX5_product_57 : decode cX5_product 57 = .ok (.aload_n 0, 1) := by decide +kernel
theorem dX5_product_58 : decode cX5_product 58 = .ok (.invokevirtual 187, 3) := by decide +kernel
theorem dX5_product_61 : decode cX5_product 61 = .ok (.ifCond .ne 5, 3) := by decide +kernel
theorem dX5_product_64 : decode cX5_product 64 = .ok (.iconst 0, 1) := by decide +kernel
theorem dX5_product_65 : decode cX5_product 65 = .ok (.ireturn, 1) := by decide +kernel
theorem dX5_product_66 : decode cX5_product 66 = .ok (.aload_n 0, 1) := by decide +kernel
theorem dX5_product_67 : decode cX5_product 67 = .ok (.getfield 34, 3) := by decide +kernel
theorem dX5_product_70 : decode cX5_product 70 = .ok (.iload_n 2, 1) := by decide +kernel
theorem dX5_product_71 : decode cX5_product 71 = .ok (.iconst 0, 1) := by decide +kernel
theorem dX5_product_72 : decode cX5_product 72 = .ok (.invokevirtual 155, 3) := by decide +kernel
theorem dX5_product_75 : decode cX5_product 75 = .ok (.iinc 1 1, 3) := by decide +kernel
theorem dX5_product_78 : decode cX5_product 78 = .ok (.goto (-67), 3) := by decide +kernel
theorem dX5_product_81 : decode cX5_product 81 = .ok (.iconst 1, 1) := by decide +kernel
theorem dX5_product_82 : decode cX5_product 82 = .ok (.ireturn, 1) := by decide +kernel
theorem dX5_part_0 : decode cX5_part 0 = .ok (.aload_n 0, 1) := by decide +kernel
theorem dX5_part_1 : decode cX5_part 1 = .ok (.getfield 45, 3) := by decide +kernel
theorem dX5_part_4 : decode cX5_part 4 = .ok (.lookupswitch 117 #[(40, 60), (260, 91), (261, 91), (273, 96), (274, 103), (275, 110)], 60) := by decide +kernel
theorem dX5_part_64 : decode cX5_part 64 = .ok (.aload_n 0, 1) := by decide +kernel
theorem dX5_part_65 : decode cX5_part 65 = .ok (.bipush 40, 2) := by decide +kernel
theorem dX5_part_67 : decode cX5_part 67 = .ok (.invokevirtual 167, 3) := by decide +kernel
theorem dX5_part_70 : decode cX5_part 70 = .ok (.ifCond .eq 23, 3) := by decide +kernel
theorem dX5_part_73 : decode cX5_part 73 = .ok (.aload_n 0, 1) := by decide +kernel
theorem dX5_part_74 : decode cX5_part 74 = .ok (.invokevirtual 145, 3) := by decide +kernel
theorem dX5_part_77 : decode cX5_part 77 = .ok (.ifCond .eq 16, 3) := by decide +kernel
theorem dX5_part_80 : decode cX5_part 80 = .ok (.aload_n 0, 1) := by decide +kernel
theorem dX5_part_81 : decode cX5_part 81 = .ok (.bipush 41, 2) := by decide +kernel
theorem dX5_part_83 : decode cX5_part 83 = .ok (.invokevirtual 170, 3) := by decide +kernel
theorem dX5_part_86 : decode cX5_part 86 = .ok (.ifCond .eq 7, 3) := by decide +kernel
theorem dX5_part_89 : decode cX5_part 89 = .ok (.iconst 1, 1) := by decide +kernel
theorem dX5_part_90 : decode cX5_part 90 = .ok (.goto 4, 3) := by decide +kernel
theorem dX5_part_93 : decode cX5_part 93 = .ok (.iconst 0, 1) := by decide +kernel
theorem dX5_part_94 : decode cX5_part 94 = .ok (.ireturn, 1) := by decide +kernel
theorem dX5_part_95 : decode cX5_part 95 = .ok (.aload_n 0, 1) := by decide +kernel
theorem dX5_part_96 : decode cX5_part 96 = .ok (.invokevirtual 190, 3) := by decide +kernel
theorem dX5_part_99 : decode cX5_part 99 = .ok (.ireturn, 1) := by decide +kernel
theorem dX5_part_100 : decode cX5_part 100 = .ok (.aload_n 0, 1) := by decide +kernel
theorem dX5_part_101 : decode cX5_part 101 = .ok (.bipush 10, 2) := by decide +kernel
theorem dX5_part_103 : decode cX5_part 103 = .ok (.invokevirtual 193, 3) := by decide +kernel
theorem dX5_part_106 : decode cX5_part 106 = .ok (.ireturn, 1) := by decide +kernel
theorem dX5_part_107 : decode cX5_part 107 = .ok (.aload_n 0, 1) := by decide +kernel
theorem dX5_part_108 : decode cX5_part 108 = .ok (.bipush 11, 2) := by decide +kernel
theorem dX5_part_110 : decode cX5_part 110 = .ok (.invokevirtual 196, 3) := by decide +kernel
theorem dX5_part_113 : decode cX5_part 113 = .ok (.ireturn, 1) := by decide +kernel
theorem dX5_part_114 : decode cX5_part 114 = .ok (.aload_n 0, 1) := by decide +kernel
theorem dX5_part_115 : decode cX5_part 115 = .ok (.bipush 12, 2) := by decide +kernel
theorem dX5_part_117 : decode cX5_part 117 = .ok (.invokevirtual 196, 3) := by decide +kernel
theorem dX5_part_120 : decode cX5_part 120 = .ok (.ireturn, 1) := by decide +kernel
theorem dX5_part_121 : decode cX5_part 121 = .ok (.aload_n 0, 1) := by decide +kernel
theorem dX5_part_122 : decode cX5_part 122 = .ok (.invokevirtual 199, 3) := by decide +kernel
theorem dX5_part_125 : decode cX5_part 125 = .ok (.ireturn, 1) := by decide +kernel
theorem dX5_ofOne_0 : decode cX5_ofOne 0 = .ok (.aload_n 0, 1) := by decide +kernel
theorem dX5_ofOne_1 : decode cX5_ofOne 1 = .ok (.invokevirtual 86, 3) := by decide +kernel
theorem dX5_ofOne_4 : decode cX5_ofOne 4 = .ok (.aload_n 0, 1) := by decide +kernel
theorem dX5_ofOne_5 : decode cX5_ofOne 5 = .ok (.bipush 40, 2) := by decide +kernel
theorem dX5_ofOne_7 : decode cX5_ofOne 7 = .ok (.invokevirtual 167, 3) := by decide +kernel
theorem dX5_ofOne_10 : decode cX5_ofOne 10 = .ok (.ifCond .eq 19, 3) := by decide +kernel
theorem dX5_ofOne_13 : decode cX5_ofOne 13 = .ok (.aload_n 0, 1) := by decide +kernel
theorem dX5_ofOne_14 : decode cX5_ofOne 14 = .ok (.invokevirtual 145, 3) := by decide +kernel
theorem dX5_ofOne_17 : decode cX5_ofOne 17 = .ok (.ifCond .eq 12, 3) := by decide +kernel
theorem dX5_ofOne_20 : decode cX5_ofOne 20 = .ok (.aload_n 0, 1) := by decide +kernel
theorem dX5_ofOne_21 : decode cX5_ofOne 21 = .ok (.bipush 41, 2) := by decide +kernel
theorem dX5_ofOne_23 : decode cX5_ofOne 23 = .ok (.invokevirtual 170, 3) := by decide +kernel
theorem dX5_ofOne_26 : decode cX5_ofOne 26 = .ok (.ifCond .ne 5, 3) := by decide +kernel
theorem dX5_ofOne_29 : decode cX5_ofOne 29 = .ok (.iconst 0, 1) := by decide +kernel
theorem dX5_ofOne_30 : decode cX5_ofOne 30 = .ok (.ireturn, 1) := by decide +kernel
theorem dX5_ofOne_31 : decode cX5_ofOne 31 = .ok (.aload_n 0, 1) := by decide +kernel
theorem dX5_ofOne_32 : decode cX5_ofOne 32 = .ok (.getfield 34, 3) := by decide +kernel
theorem dX5_ofOne_35 : decode cX5_ofOne 35 = .ok (.iload_n 1, 1) := by decide +kernel
theorem dX5_ofOne_36 : decode cX5_ofOne 36 = .ok (.iconst 0, 1) := by decide +kernel
theorem dX5_ofOne_37 : decode cX5_ofOne 37 = .ok (.invokevirtual 155, 3) := by decide +kernel
theorem dX5_ofOne_40 : decode cX5_ofOne 40 = .ok (.iconst 1, 1) := by decide +kernel
theorem dX5_ofOne_41 : decode cX5_ofOne 41 = .ok (.ireturn, 1) := by decide +kernel
theorem dX5_ofTwo_0 : decode cX5_ofTwo 0 = .ok (.aload_n 0, 1) := by decide +kernel
theorem dX5_ofTwo_1 : decode cX5_ofTwo 1 = .ok (.invokevirtual 86, 3) := by decide +kernel
theorem dX5_ofTwo_4 : decode cX5_ofTwo 4 = .ok (.aload_n 0, 1) := by decide +kernel
theorem dX5_ofTwo_5 : decode cX5_ofTwo 5 = .ok (.bipush 40, 2) := by decide +kernel
theorem dX5_ofTwo_7 : decode cX5_ofTwo 7 = .ok (.invokevirtual 167, 3) := by decide +kernel
theorem dX5_ofTwo_10 : decode cX5_ofTwo 10 = .ok (.ifCond .eq 35, 3) := by decide +kernel
theorem dX5_ofTwo_13 : decode cX5_ofTwo 13 = .ok (.aload_n 0, 1) := by decide +kernel
theorem dX5_ofTwo_14 : decode cX5_ofTwo 14 = .ok (.invokevirtual 145, 3) := by decide +kernel
theorem dX5_ofTwo_17 : decode cX5_ofTwo 17 = .ok (.ifCond .eq 28, 3) := by decide +kernel
theorem dX5_ofTwo_20 : decode cX5_ofTwo 20 = .ok (.aload_n 0, 1) := by decide +kernel
theorem dX5_ofTwo_21 : decode cX5_ofTwo 21 = .ok (.bipush 44, 2) := by decide +kernel
theorem dX5_ofTwo_23 : decode cX5_ofTwo 23 = .ok (.invokevirtual 98, 3) := by decide +kernel
theorem dX5_ofTwo_26 : decode cX5_ofTwo 26 = .ok (.ifCond .eq 19, 3) := by decide +kernel
theorem dX5_ofTwo_29 : decode cX5_ofTwo 29 = .ok (.aload_n 0, 1) := by decide +kernel
theorem dX5_ofTwo_30 : decode cX5_ofTwo 30 = .ok (.invokevirtual 145, 3) := by decide +kernel
theorem dX5_ofTwo_33 : decode cX5_ofTwo 33 = .ok (.ifCond .eq 12, 3) := by decide +kernel
theorem dX5_ofTwo_36 : decode cX5_ofTwo 36 = .ok (.aload_n 0, 1) := by decide +kernel
theorem dX5_ofTwo_37 : decode cX5_ofTwo 37 = .ok (.bipush 41, 2) := by decide +kernel
theorem dX5_ofTwo_39 : decode cX5_ofTwo 39 = .ok (.invokevirtual 170, 3) := by decide +kernel
theorem dX5_ofTwo_42 : decode cX5_ofTwo 42 = .ok (.ifCond .ne 5, 3) := by decide +kernel
theorem dX5_ofTwo_45 : decode cX5_ofTwo 45 = .ok (.iconst 0, 1) := by decide +kernel
theorem dX5_ofTwo_46 : decode cX5_ofTwo 46 = .ok (.ireturn, 1) := by decide +kernel
theorem dX5_ofTwo_47 : decode cX5_ofTwo 47 = .ok (.aload_n 0, 1) := by decide +kernel
theorem dX5_ofTwo_48 : decode cX5_ofTwo 48 = .ok (.getfield 34, 3) := by decide +kernel
theorem dX5_ofTwo_51 : decode cX5_ofTwo 51 = .ok (.iload_n 1, 1) := by decide +kernel
theorem dX5_ofTwo_52 : decode cX5_ofTwo 52 = .ok (.iconst 0, 1) := by decide +kernel
theorem dX5_ofTwo_53 : decode cX5_ofTwo 53 = .ok (.invokevirtual 155, 3) := by decide +kernel
theorem dX5_ofTwo_56 : decode cX5_ofTwo 56 = .ok (.iconst 1, 1) := by decide +kernel
theorem dX5_ofTwo_57 : decode cX5_ofTwo 57 = .ok (.ireturn, 1) := by decide +kernel
theorem dX5_reading_0 : decode cX5_reading 0 = .ok (.aload_n 0, 1) := by decide +kernel
theorem dX5_reading_1 : decode cX5_reading 1 = .ok (.invokevirtual 138, 3) := by decide +kernel
theorem dX5_reading_4 : decode cX5_reading 4 = .ok (.istore_n 1, 1) := by decide +kernel
theorem dX5_reading_5 : decode cX5_reading 5 = .ok (.iload_n 1, 1) := by decide +kernel
theorem dX5_reading_6 : decode cX5_reading 6 = .ok (.iconst (-1), 1) := by decide +kernel
theorem dX5_reading_7 : decode cX5_reading 7 = .ok (.if_icmp .ne 5, 3) := by decide +kernel
theorem dX5_reading_10 : decode cX5_reading 10 = .ok (.iconst 0, 1) := by decide +kernel
theorem dX5_reading_11 : decode cX5_reading 11 = .ok (.ireturn, 1) := by decide +kernel
theorem dX5_reading_12 : decode cX5_reading 12 = .ok (.iload_n 1, 1) := by decide +kernel
theorem dX5_reading_13 : decode cX5_reading 13 = .ok (.bipush 20, 2) := by decide +kernel
theorem dX5_reading_15 : decode cX5_reading 15 = .ok (.if_icmp .ge 14, 3) := by decide +kernel
theorem dX5_reading_18 : decode cX5_reading 18 = .ok (.aload_n 0, 1) := by decide +kernel
theorem dX5_reading_19 : decode cX5_reading 19 = .ok (.getfield 34, 3) := by decide +kernel
theorem dX5_reading_22 : decode cX5_reading 22 = .ok (.iconst 1, 1) := by decide +kernel
theorem dX5_reading_23 : decode cX5_reading 23 = .ok (.iload_n 1, 1) := by decide +kernel
theorem dX5_reading_24 : decode cX5_reading 24 = .ok (.invokevirtual 155, 3) := by decide +kernel
theorem dX5_reading_27 : decode cX5_reading 27 = .ok (.iconst 1, 1) := by decide +kernel
theorem dX5_reading_28 : decode cX5_reading 28 = .ok (.ireturn, 1) := by decide +kernel
theorem dX5_reading_29 : decode cX5_reading 29 = .ok (.aload_n 0, 1) := by decide +kernel
theorem dX5_reading_30 : decode cX5_reading 30 = .ok (.invokevirtual 142, 3) := by decide +kernel
theorem dX5_reading_33 : decode cX5_reading 33 = .ok (.ifCond .ne 5, 3) := by decide +kernel
theorem dX5_reading_36 : decode cX5_reading 36 = .ok (.iconst 0, 1) := by decide +kernel
theorem dX5_reading_37 : decode cX5_reading 37 = .ok (.ireturn, 1) := by decide +kernel
theorem dX5_reading_38 : decode cX5_reading 38 = .ok (.aload_n 0, 1) := by decide +kernel
theorem dX5_reading_39 : decode cX5_reading 39 = .ok (.getfield 34, 3) := by decide +kernel
theorem dX5_reading_42 : decode cX5_reading 42 = .ok (.iconst 2, 1) := by decide +kernel
theorem dX5_reading_43 : decode cX5_reading 43 = .ok (.iload_n 1, 1) := by decide +kernel
theorem dX5_reading_44 : decode cX5_reading 44 = .ok (.invokestatic 152, 3) := by decide +kernel
theorem dX5_reading_47 : decode cX5_reading 47 = .ok (.invokevirtual 155, 3) := by decide +kernel
theorem dX5_reading_50 : decode cX5_reading 50 = .ok (.iconst 1, 1) := by decide +kernel
theorem dX5_reading_51 : decode cX5_reading 51 = .ok (.ireturn, 1) := by decide +kernel
theorem dX5_index_0 : decode cX5_index 0 = .ok (.aload_n 0, 1) := by decide +kernel
theorem dX5_index_1 : decode cX5_index 1 = .ok (.bipush 91, 2) := by decide +kernel
theorem dX5_index_3 : decode cX5_index 3 = .ok (.invokevirtual 167, 3) := by decide +kernel
theorem dX5_index_6 : decode cX5_index 6 = .ok (.ifCond .eq 23, 3) := by decide +kernel
theorem dX5_index_9 : decode cX5_index 9 = .ok (.aload_n 0, 1) := by decide +kernel
theorem dX5_index_10 : decode cX5_index 10 = .ok (.invokevirtual 145, 3) := by decide +kernel
theorem dX5_index_13 : decode cX5_index 13 = .ok (.ifCond .eq 16, 3) := by decide +kernel
theorem dX5_index_16 : decode cX5_index 16 = .ok (.aload_n 0, 1) := by decide +kernel
theorem dX5_index_17 : decode cX5_index 17 = .ok (.bipush 93, 2) := by decide +kernel
theorem dX5_index_19 : decode cX5_index 19 = .ok (.invokevirtual 170, 3) := by decide +kernel
theorem dX5_index_22 : decode cX5_index 22 = .ok (.ifCond .eq 7, 3) := by decide +kernel
theorem dX5_index_25 : decode cX5_index 25 = .ok (.iconst 1, 1) := by decide +kernel
theorem dX5_index_26 : decode cX5_index 26 = .ok (.goto 4, 3) := by decide +kernel
theorem dX5_index_29 : decode cX5_index 29 = .ok (.iconst 0, 1) := by decide +kernel
theorem dX5_index_30 : decode cX5_index 30 = .ok (.ireturn, 1) := by decide +kernel
abbrev CLs : List Cond := ([.methodLink RX5 184 yX5_product, .instanceMethod yX5_product, .selects RX5 yX5_product yX5_product, .initialized RX5, .code yX5_product cX5_product 3 (some .boolean), .fieldLink RX5 45 "SlopeRunner$Parser" "kind" "I", .fieldLink RX5 34 "SlopeRunner$Parser" "into" "LSlopeRunner$Program;", .methodLink RX5 187 yX5_part, .instanceMethod yX5_part, .selects RX5 yX5_part yX5_part, .code yX5_part cX5_part 1 (some .boolean), .methodLink RX5 145 yX5_sum, .instanceMethod yX5_sum, .selects RX5 yX5_sum yX5_sum, .code yX5_sum cX5_sum 3 (some .boolean), .methodLink RX5 193 yX5_ofOne, .instanceMethod yX5_ofOne, .selects RX5 yX5_ofOne yX5_ofOne, .code yX5_ofOne cX5_ofOne 2 (some .boolean), .methodLink RX5 196 yX5_ofTwo, .instanceMethod yX5_ofTwo, .selects RX5 yX5_ofTwo yX5_ofTwo, .code yX5_ofTwo cX5_ofTwo 2 (some .boolean), .methodLink RX5 199 yX5_reading, .instanceMethod yX5_reading, .selects RX5 yX5_reading yX5_reading, .code yX5_reading cX5_reading 2 (some .boolean), .methodLink RX5 142 yX5_index, .instanceMethod yX5_index, .selects RX5 yX5_index yX5_index, .code yX5_index cX5_index 1 (some .boolean)] ++ ((wsV RX5 86 RX5 yX5_pass v_z_pass) ++ ((wsV RX5 155 RX6 yX6_emit v_w_emit) ++ ((wsV RX5 167 RX5 yX5_openWith v_z_openWith) ++ ((wsV RX5 170 RX5 yX5_closeWith v_z_closeWith) ++ ((wsV RX5 190 RX5 yX5_written v_z_written) ++ ((wsV RX5 98 RX5 yX5_expect v_z_expect) ++ ((wsV RX5 138 RX5 yX5_knownName v_z_knownName) ++ ((va_wsS RX5 152 yX6_rowOf v_w_rowOf) ++ wsX50)))))))))
theorem hCLs : GoodIn CLs CLs := goodIn_sub (fun w h => h) (by decide +kernel)
theorem gCLs_0 : GoodIn CLs (wsV RX5 86 RX5 yX5_pass v_z_pass) := fun w hw => hCLs w ((fun w h => (List.mem_append_right _ (List.mem_append_left _ h))) w hw)
theorem gCLs_1 : GoodIn CLs (wsV RX5 155 RX6 yX6_emit v_w_emit) := fun w hw => hCLs w ((fun w h => (List.mem_append_right _ (List.mem_append_right _ (List.mem_append_left _ h)))) w hw)
theorem gCLs_2 : GoodIn CLs (wsV RX5 167 RX5 yX5_openWith v_z_openWith) := fun w hw => hCLs w ((fun w h => (List.mem_append_right _ (List.mem_append_right _ (List.mem_append_right _ (List.mem_append_left _ h))))) w hw)
theorem gCLs_3 : GoodIn CLs (wsV RX5 170 RX5 yX5_closeWith v_z_closeWith) := fun w hw => hCLs w ((fun w h => (List.mem_append_right _ (List.mem_append_right _ (List.mem_append_right _ (List.mem_append_right _ (List.mem_append_left _ h)))))) w hw)
theorem gCLs_4 : GoodIn CLs (wsV RX5 190 RX5 yX5_written v_z_written) := fun w hw => hCLs w ((fun w h => (List.mem_append_right _ (List.mem_append_right _ (List.mem_append_right _ (List.mem_append_right _ (List.mem_append_right _ (List.mem_append_left _ h))))))) w hw)
theorem gCLs_5 : GoodIn CLs (wsV RX5 98 RX5 yX5_expect v_z_expect) := fun w hw => hCLs w ((fun w h => (List.mem_append_right _ (List.mem_append_right _ (List.mem_append_right _ (List.mem_append_right _ (List.mem_append_right _ (List.mem_append_right _ (List.mem_append_left _ h)))))))) w hw)
theorem gCLs_6 : GoodIn CLs (wsV RX5 138 RX5 yX5_knownName v_z_knownName) := fun w hw => hCLs w ((fun w h => (List.mem_append_right _ (List.mem_append_right _ (List.mem_append_right _ (List.mem_append_right _ (List.mem_append_right _ (List.mem_append_right _ (List.mem_append_right _ (List.mem_append_left _ h))))))))) w hw)
theorem gCLs_7 : GoodIn CLs (va_wsS RX5 152 yX6_rowOf v_w_rowOf) := fun w hw => hCLs w ((fun w h => (List.mem_append_right _ (List.mem_append_right _ (List.mem_append_right _ (List.mem_append_right _ (List.mem_append_right _ (List.mem_append_right _ (List.mem_append_right _ (List.mem_append_right _ (List.mem_append_left _ h)))))))))) w hw)
abbrev v_z_indexR : List Cond := .code yX5_index cX5_index 1 (some .boolean) :: CLs
abbrev v_z_readingR : List Cond := .code yX5_reading cX5_reading 2 (some .boolean) :: CLs
abbrev v_z_ofOneR : List Cond := .code yX5_ofOne cX5_ofOne 2 (some .boolean) :: CLs
abbrev v_z_ofTwoR : List Cond := .code yX5_ofTwo cX5_ofTwo 2 (some .boolean) :: CLs
abbrev v_z_partR : List Cond := .code yX5_part cX5_part 1 (some .boolean) :: CLs
abbrev v_z_productR : List Cond := .code yX5_product cX5_product 3 (some .boolean) :: CLs
abbrev v_z_sumR : List Cond := .code yX5_sum cX5_sum 3 (some .boolean) :: CLs
def C_sum (d : Nat) : Prop := ∀ (l : Launch) (D : va_G) (y : Nat → ClassId) (sz : Nat) (ad : Nat → Nat) (σ : OS) (hdp : 8 - (σ.1 35).toInt ≤ (d : Int)) (hopen0 : 0 ≤ (σ.1 35).toInt) (hopen1 : (σ.1 35).toInt ≤ 8) (htcount0 : 0 ≤ (σ.1 45).toInt) (htcount1 : (σ.1 45).toInt ≤ 700) (hlength0 : 0 ≤ (σ.1 66).toInt) (hlength1 : (σ.1 66).toInt ≤ 700) (hnumbers0 : 0 ≤ (σ.1 65).toInt) (hnumbers1 : (σ.1 65).toInt ≤ 350) (hnames0 : 0 ≤ (σ.1 68).toInt) (hnames1 : (σ.1 68).toInt ≤ 24), Met l yX5_sum v_z_sumR ({ frames := 5 * d + 20, cells := 0, slots := 0, locals := 150 * d + 600 } : Room) (va_Pc [.ref (ad 30)] (xPre D (xT y) (prw y ad σ) sz)) (va_Qi (fun (r : Int32) (u : Int32 × Int32 × Int32 × Int32 × Int32 × (Nat → Int32) × Int32 × (Nat → Int32) × Int32) => 0 ≤ u.2.2.2.2.1.toInt ∧ u.2.2.2.2.1.toInt ≤ 8 ∧ 0 ≤ u.2.2.2.2.2.2.2.2.toInt ∧ u.2.2.2.2.2.2.2.2.toInt ≤ 700 ∧ 0 ≤ u.2.2.2.2.2.2.1.toInt ∧ u.2.2.2.2.2.2.1.toInt ≤ 350 ∧ (r.toInt = 0 ∨ r.toInt = 1) ∧ (r.toInt = 1 → u.2.2.2.2.1.toInt = (σ.1 35).toInt)) (fun (u : Int32 × Int32 × Int32 × Int32 × Int32 × (Nat → Int32) × Int32 × (Nat → Int32) × Int32) => xB D (xT y) (va_A (prw y ad σ) sz) (prw y ad (sI (tI (sI (tI (sI (sI (sI (sI (sI σ 36 u.1) 37 u.2.1) 33 u.2.2.1) 34 u.2.2.2.1) 35 u.2.2.2.2.1) 71 u.2.2.2.2.2.1) 65 u.2.2.2.2.2.2.1) 72 u.2.2.2.2.2.2.2.1) 66 u.2.2.2.2.2.2.2.2))) (va_A (prw y ad σ) sz)) 0 0 (va_A (prw y ad σ) sz)
set_option maxHeartbeats 4000000 in
set_option maxRecDepth 100000 in
theorem z_indexR (l : Launch) (D : va_G) (y : Nat → ClassId) (sz : Nat) (ad : Nat → Nat) (σ : OS) (d : Nat) (ihs : ∀ e : Nat, d = e + 1 → C_sum e) (hdp : 8 - (σ.1 35).toInt ≤ (d : Int)) (hopen0 : 0 ≤ (σ.1 35).toInt) (hopen1 : (σ.1 35).toInt ≤ 8) (htcount0 : 0 ≤ (σ.1 45).toInt) (htcount1 : (σ.1 45).toInt ≤ 700) (hlength0 : 0 ≤ (σ.1 66).toInt) (hlength1 : (σ.1 66).toInt ≤ 700) (hnumbers0 : 0 ≤ (σ.1 65).toInt) (hnumbers1 : (σ.1 65).toInt ≤ 350) (hnames0 : 0 ≤ (σ.1 68).toInt) (hnames1 : (σ.1 68).toInt ≤ 24) : Met l yX5_index v_z_indexR ({ frames := 5 * d + 16, cells := 0, slots := 0, locals := 150 * d + 480 } : Room) (va_Pc [.ref (ad 30)] (xPre D (xT y) (prw y ad σ) sz)) (va_Qi (fun (r : Int32) (u : Int32 × Int32 × Int32 × Int32 × Int32 × (Nat → Int32) × Int32 × (Nat → Int32) × Int32) => 0 ≤ u.2.2.2.2.1.toInt ∧ u.2.2.2.2.1.toInt ≤ 8 ∧ 0 ≤ u.2.2.2.2.2.2.2.2.toInt ∧ u.2.2.2.2.2.2.2.2.toInt ≤ 700 ∧ 0 ≤ u.2.2.2.2.2.2.1.toInt ∧ u.2.2.2.2.2.2.1.toInt ≤ 350 ∧ (r.toInt = 0 ∨ r.toInt = 1) ∧ (r.toInt = 1 → u.2.2.2.2.1.toInt = (σ.1 35).toInt)) (fun (u : Int32 × Int32 × Int32 × Int32 × Int32 × (Nat → Int32) × Int32 × (Nat → Int32) × Int32) => xB D (xT y) (va_A (prw y ad σ) sz) (prw y ad (sI (tI (sI (tI (sI (sI (sI (sI (sI σ 36 u.1) 37 u.2.1) 33 u.2.2.1) 34 u.2.2.2.1) 35 u.2.2.2.2.1) 71 u.2.2.2.2.2.1) 65 u.2.2.2.2.2.2.1) 72 u.2.2.2.2.2.2.2.1) 66 u.2.2.2.2.2.2.2.2))) (va_A (prw y ad σ) sz)) 0 0 (va_A (prw y ad σ) sz) := by
  refine x_meti (cc := cX5_index) (maxL := 1) (by decide) rfl (Nat.le_of_ble_eq_true rfl) ?_
  intro p e s m below meth c A H locs Q hx hb hml hown hts hr hlocks hmn hA hP hK hD hS ls hl hQ
  have hl : lv_has ls 1 [(0, .ref (ad 30))] := hl
  have kk_91 : (91 : Int32).toInt = 91 := rfl
  have kk_0 : (0 : Int32).toInt = 0 := rfl
  have kk_93 : (93 : Int32).toInt = 93 := rfl
  have kk_1 : (1 : Int32).toInt = 1 := rfl
  refine lv_aload_n hx hb dX5_index_0 rfl (lv_at hl 0 rfl) ?_
  refine lv_bipush (v := 91) hx hb dX5_index_1 (by decide) ?_
  refine x_calliW (va_runV (As := [.int 91]) (rest := []) ⟨hx, hb, hml, hown, hts⟩ (z_openWith l D y H.size ad σ 91 (show 0 ≤ ((σ.1 45)).toInt from by first | omega | decide) (show ((σ.1 45)).toInt ≤ 700 from by first | omega | decide) (show 0 ≤ ((σ.1 35)).toInt from by first | omega | decide) (show ((σ.1 35)).toInt ≤ 8 from by first | omega | decide)) (cwV 1 hts (goodIn_cons gCLs_2) rfl rfl rfl (by decide +kernel) ⟨by (try dsimp only); omega, by (try dsimp only); omega⟩) (x_preV (q := (RX5, TX5, 8)) hK hP hD (ci := 4) (q0 := 0) rfl prw_o0) rfl rfl hl.1 rfl (lv_room (Nat.le_of_ble_eq_true rfl)) dX5_index_3 ⟨Nat.le_of_ble_eq_true rfl, Nat.le_of_ble_eq_true rfl⟩) hP hD hS hA (fun r_1 u H locs hw hP hD hS => ?_)
  obtain ⟨n_2, n_3, n_4, n_5, n_6⟩ := u
  try dsimp only at hw
  have hP : va_P D vwCl (prw y ad (sI (sI (sI (sI (sI σ 33 n_2) 34 n_3) 35 n_4) 36 n_5) 37 n_6)) H := hP
  have hD : va_D A (prw y ad (sI (sI (sI (sI (sI σ 33 n_2) 34 n_3) 35 n_4) 36 n_5) 37 n_6)) := hD
  replace hw : (r_1.toInt = 1 ∧ n_4.toInt = ((σ.1 35)).toInt + 1 ∧ n_4.toInt ≤ 8) ∨ (r_1.toInt = 0 ∧ n_4 = (σ.1 35)) := hw
  rcases hw with ⟨hoa, hob, hoc⟩ | ⟨hoa, hob⟩
  · skip
    refine lv_if_eq (tgt := 29) hx hb dX5_index_6 (by decide) (fun c_7 => ?_) (fun c_7 => ?_)
    · have kc_7 : r_1.toInt = 0 := by have h9 := c_7; simp only [ge_iff_le, gt_iff_lt, x_lt, x_le, x_eq, ne_eq, Int32.not_lt, Int32.not_le] at h9; simp only [Int32.reduceToInt] at h9; omega
      exfalso
      omega
    · have kc_7 : r_1.toInt ≠ 0 := by have h9 := c_7; simp only [ge_iff_le, gt_iff_lt, x_lt, x_le, x_eq, ne_eq, Int32.not_lt, Int32.not_le] at h9; simp only [Int32.reduceToInt] at h9; omega
      refine lv_aload_n hx hb dX5_index_9 rfl (lv_at hl 0 rfl) ?_
      obtain ⟨e9, he9⟩ : ∃ e9, d = e9 + 1 := ⟨d - 1, by omega⟩
      refine x_calliW (va_runV (As := []) (rest := []) ⟨hx, hb, hml, hown, hts⟩ ((ihs e9 he9) l D y H.size ad (sI (sI (sI (sI (sI σ 33 n_2) 34 n_3) 35 n_4) 36 n_5) 37 n_6) (show 8 - (n_4).toInt ≤ (e9 : Int) from by first | omega | decide) (show 0 ≤ (n_4).toInt from by first | omega | decide) (show (n_4).toInt ≤ 8 from by first | omega | decide) (show 0 ≤ ((σ.1 45)).toInt from by first | omega | decide) (show ((σ.1 45)).toInt ≤ 700 from by first | omega | decide) (show 0 ≤ ((σ.1 66)).toInt from by first | omega | decide) (show ((σ.1 66)).toInt ≤ 700 from by first | omega | decide) (show 0 ≤ ((σ.1 65)).toInt from by first | omega | decide) (show ((σ.1 65)).toInt ≤ 350 from by first | omega | decide) (show 0 ≤ ((σ.1 68)).toInt from by first | omega | decide) (show ((σ.1 68)).toInt ≤ 24 from by first | omega | decide)) (cwV 0 hts (goodIn_cl hCLs (List.mem_of_getElem? (i := 11) rfl) (List.mem_of_getElem? (i := 12) rfl) (List.mem_of_getElem? (i := 13) rfl) (List.mem_of_getElem? (i := 3) rfl) (List.mem_of_getElem? (i := 14) rfl)) rfl rfl rfl (by decide +kernel) ⟨by (try dsimp only); omega, by (try dsimp only); omega⟩) (x_preV (q := (RX5, TX5, 8)) hK hP hD (ci := 4) (q0 := 0) rfl prw_o0) rfl rfl hl.1 rfl (lv_room (Nat.le_of_ble_eq_true rfl)) dX5_index_10 ⟨Nat.le_of_ble_eq_true rfl, Nat.le_of_ble_eq_true rfl⟩) hP hD hS hA (fun r_8 u H locs hw hP hD hS => ?_)
      obtain ⟨n_9, n_10, n_11, n_12, n_13, f_14, n_15, f_16, n_17⟩ := u
      try dsimp only at hw
      have hP : va_P D vwCl (prw y ad (sI (tI (sI (tI (sI (sI (sI (sI (sI (sI (sI (sI (sI (sI σ 33 n_2) 34 n_3) 35 n_4) 36 n_5) 37 n_6) 36 n_9) 37 n_10) 33 n_11) 34 n_12) 35 n_13) 71 f_14) 65 n_15) 72 f_16) 66 n_17)) H := hP
      have hD : va_D A (prw y ad (sI (tI (sI (tI (sI (sI (sI (sI (sI (sI (sI (sI (sI (sI σ 33 n_2) 34 n_3) 35 n_4) 36 n_5) 37 n_6) 36 n_9) 37 n_10) 33 n_11) 34 n_12) 35 n_13) 71 f_14) 65 n_15) 72 f_16) 66 n_17)) := hD
      replace hw : 0 ≤ n_13.toInt ∧ n_13.toInt ≤ 8 ∧ 0 ≤ n_17.toInt ∧ n_17.toInt ≤ 700 ∧ 0 ≤ n_15.toInt ∧ n_15.toInt ≤ 350 ∧ (r_8.toInt = 0 ∨ r_8.toInt = 1) ∧ (r_8.toInt = 1 → n_13.toInt = (n_4).toInt) := hw
      obtain ⟨ho1, hp1, hq1, hr1, hs1, ht1, hu1, hv1⟩ := hw
      have hw := hu1
      refine lv_if_eq (tgt := 29) hx hb dX5_index_13 (by decide) (fun c_18 => ?_) (fun c_18 => ?_)
      · have kc_18 : r_8.toInt = 0 := by have h9 := c_18; simp only [ge_iff_le, gt_iff_lt, x_lt, x_le, x_eq, ne_eq, Int32.not_lt, Int32.not_le] at h9; simp only [Int32.reduceToInt] at h9; omega
        refine lv_iconst (v := 0) hx hb dX5_index_29 (by decide) ?_
        have hP : va_P D vwCl (prw y ad (sI (tI (sI (tI (sI (sI (sI (sI (sI σ 36 n_9) 37 n_10) 33 n_11) 34 n_12) 35 n_13) 71 f_14) 65 n_15) 72 f_16) 66 n_17)) H := hP
        have hD : va_D A (prw y ad (sI (tI (sI (tI (sI (sI (sI (sI (sI σ 36 n_9) 37 n_10) 33 n_11) 34 n_12) 35 n_13) 71 f_14) 65 n_15) 72 f_16) 66 n_17)) := hD
        exact x_zretW (v := 0) (u := (n_9, n_10, n_11, n_12, n_13, f_14, n_15, f_16, n_17)) hx hb hr hQ rfl (by (try dsimp only); exact ⟨by omega, by omega, by omega, by omega, by omega, by omega, by first | decide | omega, by first | omega | exact fun h9 => absurd h9 (by decide)⟩) hP hD hK hS dX5_index_30 hlocks
      · have kc_18 : r_8.toInt ≠ 0 := by have h9 := c_18; simp only [ge_iff_le, gt_iff_lt, x_lt, x_le, x_eq, ne_eq, Int32.not_lt, Int32.not_le] at h9; simp only [Int32.reduceToInt] at h9; omega
        refine lv_aload_n hx hb dX5_index_16 rfl (lv_at hl 0 rfl) ?_
        refine lv_bipush (v := 93) hx hb dX5_index_17 (by decide) ?_
        refine x_calliW (va_runV (As := [.int 93]) (rest := []) ⟨hx, hb, hml, hown, hts⟩ (z_closeWith l D y H.size ad (sI (tI (sI (tI (sI (sI (sI (sI (sI (sI (sI (sI (sI (sI σ 33 n_2) 34 n_3) 35 n_4) 36 n_5) 37 n_6) 36 n_9) 37 n_10) 33 n_11) 34 n_12) 35 n_13) 71 f_14) 65 n_15) 72 f_16) 66 n_17) 93 (show 0 ≤ ((σ.1 45)).toInt from by first | omega | decide) (show ((σ.1 45)).toInt ≤ 700 from by first | omega | decide) (show 1 ≤ (n_13).toInt from by first | omega | decide) (show (n_13).toInt ≤ 8 from by first | omega | decide)) (cwV 1 hts (goodIn_cons gCLs_3) rfl rfl rfl (by decide +kernel) ⟨by (try dsimp only); omega, by (try dsimp only); omega⟩) (x_preV (q := (RX5, TX5, 8)) hK hP hD (ci := 4) (q0 := 0) rfl prw_o0) rfl rfl hl.1 rfl (lv_room (Nat.le_of_ble_eq_true rfl)) dX5_index_19 ⟨Nat.le_of_ble_eq_true rfl, Nat.le_of_ble_eq_true rfl⟩) hP hD hS hA (fun r_19 u H locs hw hP hD hS => ?_)
        obtain ⟨n_20, n_21, n_22, n_23, n_24⟩ := u
        try dsimp only at hw
        have hP : va_P D vwCl (prw y ad (sI (sI (sI (sI (sI (sI (tI (sI (tI (sI (sI (sI (sI (sI (sI (sI (sI (sI (sI σ 33 n_2) 34 n_3) 35 n_4) 36 n_5) 37 n_6) 36 n_9) 37 n_10) 33 n_11) 34 n_12) 35 n_13) 71 f_14) 65 n_15) 72 f_16) 66 n_17) 33 n_20) 34 n_21) 35 n_22) 36 n_23) 37 n_24)) H := hP
        have hD : va_D A (prw y ad (sI (sI (sI (sI (sI (sI (tI (sI (tI (sI (sI (sI (sI (sI (sI (sI (sI (sI (sI σ 33 n_2) 34 n_3) 35 n_4) 36 n_5) 37 n_6) 36 n_9) 37 n_10) 33 n_11) 34 n_12) 35 n_13) 71 f_14) 65 n_15) 72 f_16) 66 n_17) 33 n_20) 34 n_21) 35 n_22) 36 n_23) 37 n_24)) := hD
        replace hw : (r_19.toInt = 1 ∧ n_22.toInt = (n_13).toInt - 1) ∨ (r_19.toInt = 0 ∧ n_22 = n_13) := hw
        rcases hw with ⟨hca, hcb⟩ | ⟨hca, hcb⟩
        · skip
          refine lv_if_eq (tgt := 29) hx hb dX5_index_22 (by decide) (fun c_25 => ?_) (fun c_25 => ?_)
          · have kc_25 : r_19.toInt = 0 := by have h9 := c_25; simp only [ge_iff_le, gt_iff_lt, x_lt, x_le, x_eq, ne_eq, Int32.not_lt, Int32.not_le] at h9; simp only [Int32.reduceToInt] at h9; omega
            exfalso
            omega
          · have kc_25 : r_19.toInt ≠ 0 := by have h9 := c_25; simp only [ge_iff_le, gt_iff_lt, x_lt, x_le, x_eq, ne_eq, Int32.not_lt, Int32.not_le] at h9; simp only [Int32.reduceToInt] at h9; omega
            refine lv_iconst (v := 1) hx hb dX5_index_25 (by decide) ?_
            refine lv_goto (tgt := 30) hx hb dX5_index_26 (by decide) ?_
            have hP : va_P D vwCl (prw y ad (sI (tI (sI (tI (sI (sI (sI (sI (sI σ 36 n_23) 37 n_24) 33 n_20) 34 n_21) 35 n_22) 71 f_14) 65 n_15) 72 f_16) 66 n_17)) H := hP
            have hD : va_D A (prw y ad (sI (tI (sI (tI (sI (sI (sI (sI (sI σ 36 n_23) 37 n_24) 33 n_20) 34 n_21) 35 n_22) 71 f_14) 65 n_15) 72 f_16) 66 n_17)) := hD
            exact x_zretW (v := 1) (u := (n_23, n_24, n_20, n_21, n_22, f_14, n_15, f_16, n_17)) hx hb hr hQ rfl (by (try dsimp only); exact ⟨by omega, by omega, by omega, by omega, by omega, by omega, by first | decide | omega, by first | omega | exact fun h9 => absurd h9 (by decide)⟩) hP hD hK hS dX5_index_30 hlocks
        · have hcc : n_22.toInt = n_13.toInt := by rw [hcb]
          refine lv_if_eq (tgt := 29) hx hb dX5_index_22 (by decide) (fun c_26 => ?_) (fun c_26 => ?_)
          · have kc_26 : r_19.toInt = 0 := by have h9 := c_26; simp only [ge_iff_le, gt_iff_lt, x_lt, x_le, x_eq, ne_eq, Int32.not_lt, Int32.not_le] at h9; simp only [Int32.reduceToInt] at h9; omega
            refine lv_iconst (v := 0) hx hb dX5_index_29 (by decide) ?_
            have hP : va_P D vwCl (prw y ad (sI (tI (sI (tI (sI (sI (sI (sI (sI σ 36 n_23) 37 n_24) 33 n_20) 34 n_21) 35 n_22) 71 f_14) 65 n_15) 72 f_16) 66 n_17)) H := hP
            have hD : va_D A (prw y ad (sI (tI (sI (tI (sI (sI (sI (sI (sI σ 36 n_23) 37 n_24) 33 n_20) 34 n_21) 35 n_22) 71 f_14) 65 n_15) 72 f_16) 66 n_17)) := hD
            exact x_zretW (v := 0) (u := (n_23, n_24, n_20, n_21, n_22, f_14, n_15, f_16, n_17)) hx hb hr hQ rfl (by (try dsimp only); exact ⟨by omega, by omega, by omega, by omega, by omega, by omega, by first | decide | omega, by first | omega | exact fun h9 => absurd h9 (by decide)⟩) hP hD hK hS dX5_index_30 hlocks
          · have kc_26 : r_19.toInt ≠ 0 := by have h9 := c_26; simp only [ge_iff_le, gt_iff_lt, x_lt, x_le, x_eq, ne_eq, Int32.not_lt, Int32.not_le] at h9; simp only [Int32.reduceToInt] at h9; omega
            exfalso
            omega
  · have hoc : n_4.toInt = (σ.1 35).toInt := by rw [hob]
    refine lv_if_eq (tgt := 29) hx hb dX5_index_6 (by decide) (fun c_27 => ?_) (fun c_27 => ?_)
    · have kc_27 : r_1.toInt = 0 := by have h9 := c_27; simp only [ge_iff_le, gt_iff_lt, x_lt, x_le, x_eq, ne_eq, Int32.not_lt, Int32.not_le] at h9; simp only [Int32.reduceToInt] at h9; omega
      refine lv_iconst (v := 0) hx hb dX5_index_29 (by decide) ?_
      have hP : va_P D vwCl (prw y ad (sI (tI (sI (tI (sI (sI (sI (sI (sI σ 36 n_5) 37 n_6) 33 n_2) 34 n_3) 35 n_4) 71 (σ.2.2.1 71)) 65 (σ.1 65)) 72 (σ.2.2.1 72)) 66 (σ.1 66))) H := hP
      have hD : va_D A (prw y ad (sI (tI (sI (tI (sI (sI (sI (sI (sI σ 36 n_5) 37 n_6) 33 n_2) 34 n_3) 35 n_4) 71 (σ.2.2.1 71)) 65 (σ.1 65)) 72 (σ.2.2.1 72)) 66 (σ.1 66))) := hD
      exact x_zretW (v := 0) (u := (n_5, n_6, n_2, n_3, n_4, (σ.2.2.1 71), (σ.1 65), (σ.2.2.1 72), (σ.1 66))) hx hb hr hQ rfl (by (try dsimp only); exact ⟨by omega, by omega, by omega, by omega, by omega, by omega, by first | decide | omega, by first | omega | exact fun h9 => absurd h9 (by decide)⟩) hP hD hK hS dX5_index_30 hlocks
    · have kc_27 : r_1.toInt ≠ 0 := by have h9 := c_27; simp only [ge_iff_le, gt_iff_lt, x_lt, x_le, x_eq, ne_eq, Int32.not_lt, Int32.not_le] at h9; simp only [Int32.reduceToInt] at h9; omega
      exfalso
      omega

set_option maxHeartbeats 4000000 in
set_option maxRecDepth 100000 in
theorem z_readingR (l : Launch) (D : va_G) (y : Nat → ClassId) (sz : Nat) (ad : Nat → Nat) (σ : OS) (d : Nat) (ihs : ∀ e : Nat, d = e + 1 → C_sum e) (hdp : 8 - (σ.1 35).toInt ≤ (d : Int)) (hopen0 : 0 ≤ (σ.1 35).toInt) (hopen1 : (σ.1 35).toInt ≤ 8) (htcount0 : 0 ≤ (σ.1 45).toInt) (htcount1 : (σ.1 45).toInt ≤ 700) (hlength0 : 0 ≤ (σ.1 66).toInt) (hlength1 : (σ.1 66).toInt ≤ 700) (hnumbers0 : 0 ≤ (σ.1 65).toInt) (hnumbers1 : (σ.1 65).toInt ≤ 350) (hnames0 : 0 ≤ (σ.1 68).toInt) (hnames1 : (σ.1 68).toInt ≤ 24) : Met l yX5_reading v_z_readingR ({ frames := 5 * d + 17, cells := 0, slots := 0, locals := 150 * d + 510 } : Room) (va_Pc [.ref (ad 30)] (xPre D (xT y) (prw y ad σ) sz)) (va_Qi (fun (r : Int32) (u : Int32 × Int32 × Int32 × Int32 × Int32 × (Nat → Int32) × Int32 × (Nat → Int32) × Int32) => 0 ≤ u.2.2.2.2.1.toInt ∧ u.2.2.2.2.1.toInt ≤ 8 ∧ 0 ≤ u.2.2.2.2.2.2.2.2.toInt ∧ u.2.2.2.2.2.2.2.2.toInt ≤ 700 ∧ 0 ≤ u.2.2.2.2.2.2.1.toInt ∧ u.2.2.2.2.2.2.1.toInt ≤ 350 ∧ (r.toInt = 0 ∨ r.toInt = 1) ∧ (r.toInt = 1 → u.2.2.2.2.1.toInt = (σ.1 35).toInt)) (fun (u : Int32 × Int32 × Int32 × Int32 × Int32 × (Nat → Int32) × Int32 × (Nat → Int32) × Int32) => xB D (xT y) (va_A (prw y ad σ) sz) (prw y ad (sI (tI (sI (tI (sI (sI (sI (sI (sI σ 36 u.1) 37 u.2.1) 33 u.2.2.1) 34 u.2.2.2.1) 35 u.2.2.2.2.1) 71 u.2.2.2.2.2.1) 65 u.2.2.2.2.2.2.1) 72 u.2.2.2.2.2.2.2.1) 66 u.2.2.2.2.2.2.2.2))) (va_A (prw y ad σ) sz)) 0 0 (va_A (prw y ad σ) sz) := by
  refine x_meti (cc := cX5_reading) (maxL := 2) (by decide) rfl (Nat.le_of_ble_eq_true rfl) ?_
  intro p e s m below meth c A H locs Q hx hb hml hown hts hr hlocks hmn hA hP hK hD hS ls hl hQ
  have hl : lv_has ls 2 [(0, .ref (ad 30))] := hl
  have kk_m1 : ((-1) : Int32).toInt = -1 := rfl
  have kk_20 : (20 : Int32).toInt = 20 := rfl
  have kk_0 : (0 : Int32).toInt = 0 := rfl
  have fl34 := hts (.fieldLink RX5 34 "SlopeRunner$Parser" "into" "LSlopeRunner$Program;") (List.mem_of_getElem? (i := 7) rfl)
  have inX5 : ∀ w ∈ wsX50, w ∈ v_z_readingR := (fun w h => List.mem_cons_of_mem _ (List.mem_append_right _ (List.mem_append_right _ (List.mem_append_right _ (List.mem_append_right _ (List.mem_append_right _ (List.mem_append_right _ (List.mem_append_right _ (List.mem_append_right _ (List.mem_append_right _ h))))))))))
  have kk_2 : (2 : Int32).toInt = 2 := rfl
  have kk_1 : (1 : Int32).toInt = 1 := rfl
  refine lv_aload_n hx hb dX5_reading_0 rfl (lv_at hl 0 rfl) ?_
  refine x_calliW (va_runV (As := []) (rest := []) ⟨hx, hb, hml, hown, hts⟩ (z_knownName l D y H.size ad σ (show 0 ≤ ((σ.1 45)).toInt from by first | omega | decide) (show ((σ.1 45)).toInt ≤ 700 from by first | omega | decide) (show 0 ≤ ((σ.1 68)).toInt from by first | omega | decide) (show ((σ.1 68)).toInt ≤ 24 from by first | omega | decide)) (cwV 0 hts (goodIn_cons gCLs_6) rfl rfl rfl (by decide +kernel) ⟨by (try dsimp only); omega, by (try dsimp only); omega⟩) (x_preV (q := (RX5, TX5, 8)) hK hP hD (ci := 4) (q0 := 0) rfl prw_o0) rfl rfl hl.1 rfl (lv_room (Nat.le_of_ble_eq_true rfl)) dX5_reading_1 ⟨Nat.le_of_ble_eq_true rfl, Nat.le_of_ble_eq_true rfl⟩) hP hD hS hA (fun r_1 u H locs hw hP hD hS => ?_)
  obtain ⟨n_2, n_3, n_4, n_5⟩ := u
  try dsimp only at hw
  have hP : va_P D vwCl (prw y ad (sI (sI (sI (sI σ 36 n_2) 37 n_3) 33 n_4) 34 n_5)) H := hP
  have hD : va_D A (prw y ad (sI (sI (sI (sI σ 36 n_2) 37 n_3) 33 n_4) 34 n_5)) := hD
  replace hw : True := hw
  refine lv_istore_n (lv' := [(1, .int r_1), (0, .ref (ad 30))]) hx hb dX5_reading_4 rfl hl (by decide) rfl (fun ls hl => ?_)
  refine lv_iload_n hx hb dX5_reading_5 rfl (lv_at hl 0 rfl) ?_
  refine lv_iconst (v := (-1)) hx hb dX5_reading_6 (by decide) ?_
  refine lv_icmp_ne (tgt := 12) hx hb dX5_reading_7 (by decide) (fun c_6 => ?_) (fun c_6 => ?_)
  · have kc_6 : r_1.toInt ≠ (-1) := by have h9 := c_6; simp only [ge_iff_le, gt_iff_lt, x_lt, x_le, x_eq, ne_eq, Int32.not_lt, Int32.not_le] at h9; simp only [Int32.reduceToInt] at h9; omega
    refine lv_iload_n hx hb dX5_reading_12 rfl (lv_at hl 0 rfl) ?_
    refine lv_bipush (v := 20) hx hb dX5_reading_13 (by decide) ?_
    refine lv_icmp_ge (tgt := 29) hx hb dX5_reading_15 (by decide) (fun c_7 => ?_) (fun c_7 => ?_)
    · have kc_7 : r_1.toInt ≥ 20 := by have h9 := c_7; simp only [ge_iff_le, gt_iff_lt, x_lt, x_le, x_eq, ne_eq, Int32.not_lt, Int32.not_le] at h9; simp only [Int32.reduceToInt] at h9; omega
      refine lv_aload_n hx hb dX5_reading_29 rfl (lv_at hl 1 rfl) ?_
      refine x_calliW (va_runV (As := []) (rest := []) ⟨hx, hb, hml, hown, hts⟩ (z_indexR l D y H.size ad (sI (sI (sI (sI σ 36 n_2) 37 n_3) 33 n_4) 34 n_5) d ihs (show 8 - ((σ.1 35)).toInt ≤ (d : Int) from by first | omega | decide) (show 0 ≤ ((σ.1 35)).toInt from by first | omega | decide) (show ((σ.1 35)).toInt ≤ 8 from by first | omega | decide) (show 0 ≤ ((σ.1 45)).toInt from by first | omega | decide) (show ((σ.1 45)).toInt ≤ 700 from by first | omega | decide) (show 0 ≤ ((σ.1 66)).toInt from by first | omega | decide) (show ((σ.1 66)).toInt ≤ 700 from by first | omega | decide) (show 0 ≤ ((σ.1 65)).toInt from by first | omega | decide) (show ((σ.1 65)).toInt ≤ 350 from by first | omega | decide) (show 0 ≤ ((σ.1 68)).toInt from by first | omega | decide) (show ((σ.1 68)).toInt ≤ 24 from by first | omega | decide)) (cwV 0 hts (goodIn_cl hCLs (List.mem_of_getElem? (i := 27) rfl) (List.mem_of_getElem? (i := 28) rfl) (List.mem_of_getElem? (i := 29) rfl) (List.mem_of_getElem? (i := 3) rfl) (List.mem_of_getElem? (i := 30) rfl)) rfl rfl rfl (by decide +kernel) ⟨by (try dsimp only); omega, by (try dsimp only); omega⟩) (x_preV (q := (RX5, TX5, 8)) hK hP hD (ci := 4) (q0 := 0) rfl prw_o0) rfl rfl hl.1 rfl (lv_room (Nat.le_of_ble_eq_true rfl)) dX5_reading_30 ⟨Nat.le_of_ble_eq_true rfl, Nat.le_of_ble_eq_true rfl⟩) hP hD hS hA (fun r_8 u H locs hw hP hD hS => ?_)
      obtain ⟨n_9, n_10, n_11, n_12, n_13, f_14, n_15, f_16, n_17⟩ := u
      try dsimp only at hw
      have hP : va_P D vwCl (prw y ad (sI (tI (sI (tI (sI (sI (sI (sI (sI (sI (sI (sI (sI σ 36 n_2) 37 n_3) 33 n_4) 34 n_5) 36 n_9) 37 n_10) 33 n_11) 34 n_12) 35 n_13) 71 f_14) 65 n_15) 72 f_16) 66 n_17)) H := hP
      have hD : va_D A (prw y ad (sI (tI (sI (tI (sI (sI (sI (sI (sI (sI (sI (sI (sI σ 36 n_2) 37 n_3) 33 n_4) 34 n_5) 36 n_9) 37 n_10) 33 n_11) 34 n_12) 35 n_13) 71 f_14) 65 n_15) 72 f_16) 66 n_17)) := hD
      replace hw : 0 ≤ n_13.toInt ∧ n_13.toInt ≤ 8 ∧ 0 ≤ n_17.toInt ∧ n_17.toInt ≤ 700 ∧ 0 ≤ n_15.toInt ∧ n_15.toInt ≤ 350 ∧ (r_8.toInt = 0 ∨ r_8.toInt = 1) ∧ (r_8.toInt = 1 → n_13.toInt = ((σ.1 35)).toInt) := hw
      obtain ⟨ho1, hp1, hq1, hr1, hs1, ht1, hu1, hv1⟩ := hw
      have hw := hu1
      refine lv_if_ne (tgt := 38) hx hb dX5_reading_33 (by decide) (fun c_18 => ?_) (fun c_18 => ?_)
      · have kc_18 : r_8.toInt ≠ 0 := by have h9 := c_18; simp only [ge_iff_le, gt_iff_lt, x_lt, x_le, x_eq, ne_eq, Int32.not_lt, Int32.not_le] at h9; simp only [Int32.reduceToInt] at h9; omega
        refine lv_aload_n hx hb dX5_reading_38 rfl (lv_at hl 1 rfl) ?_
        refine va_get (D := D) (ci := 4) (v := .ref (ad 60)) (C := RX5) (T := TX5) (N := 8) hx hb hts inX5 hown hK hP 0 prw_o0 rfl 1 (by decide) fl34 (fun _ h9 => h9) rfl dX5_reading_39 ?_
        refine lv_iconst (v := 2) hx hb dX5_reading_42 (by decide) ?_
        refine lv_iload_n hx hb dX5_reading_43 rfl (lv_at hl 0 rfl) ?_
        refine x_calliN (va_runS (As := [.int r_1]) (rest := [.int 2, .ref (ad 60)]) ⟨hx, hb, hml, hown, hts⟩ (w_rowOf l D y H.size r_1) (va_cwS 1 hts (goodIn_cons gCLs_7) rfl rfl rfl (by decide +kernel) ⟨by (try dsimp only); omega, by (try dsimp only); omega⟩) (x_preS hK (x_nilP D H) (x_nilD A)) rfl rfl hl.1 rfl (lv_room (Nat.le_of_ble_eq_true rfl)) dX5_reading_44 ⟨Nat.le_of_ble_eq_true rfl, Nat.le_of_ble_eq_true rfl⟩) hP hD hS hA (fun r_19 u H locs hw hP hD hS => ?_)
        try dsimp only at hw
        have hPs : va_P D vwCl (pgw y ad (sI (tI (sI (tI (sI (sI (sI (sI (sI (sI (sI (sI (sI σ 36 n_2) 37 n_3) 33 n_4) 34 n_5) 36 n_9) 37 n_10) 33 n_11) 34 n_12) 35 n_13) 71 f_14) 65 n_15) 72 f_16) 66 n_17)) H := x_suP hP [2, 7, 8, 9, 10, 11, 12] rfl
        have hDs : va_D A (pgw y ad (sI (tI (sI (tI (sI (sI (sI (sI (sI (sI (sI (sI (sI σ 36 n_2) 37 n_3) 33 n_4) 34 n_5) 36 n_9) 37 n_10) 33 n_11) 34 n_12) 35 n_13) 71 f_14) 65 n_15) 72 f_16) 66 n_17)) := x_suD hD [2, 7, 8, 9, 10, 11, 12] rfl (by decide)
        refine x_callvS (b1 := fun (u : (Nat → Int32) × Int32) => (prw y ad (sI (tI (sI (tI (sI (tI (sI (sI (sI (sI (sI (sI (sI (sI (sI σ 36 n_2) 37 n_3) 33 n_4) 34 n_5) 36 n_9) 37 n_10) 33 n_11) 34 n_12) 35 n_13) 71 f_14) 65 n_15) 72 f_16) 66 n_17) 72 u.1) 66 u.2))) [2, 7, 8, 9, 10, 11, 12] (va_runV (As := [.int 2, .int r_19]) (rest := []) ⟨hx, hb, hml, hown, hts⟩ (w_emit l D y H.size ad (sI (tI (sI (tI (sI (sI (sI (sI (sI (sI (sI (sI (sI σ 36 n_2) 37 n_3) 33 n_4) 34 n_5) 36 n_9) 37 n_10) 33 n_11) 34 n_12) 35 n_13) 71 f_14) 65 n_15) 72 f_16) 66 n_17) 2 r_19 (show 0 ≤ (n_17).toInt from by first | omega | decide) (show (n_17).toInt ≤ 700 from by first | omega | decide)) (cwV 2 hts (goodIn_cons gCLs_1) rfl rfl rfl (by decide +kernel) ⟨by (try dsimp only); omega, by (try dsimp only); omega⟩) (x_preV (q := (RX6, TX6, 13)) hK hPs hDs (ci := 5) (q0 := 0) rfl pgw_o0) rfl rfl hl.1 rfl (lv_room (Nat.le_of_ble_eq_true rfl)) dX5_reading_47 ⟨Nat.le_of_ble_eq_true rfl, Nat.le_of_ble_eq_true rfl⟩) hP hD hS hA rfl (fun _ => rfl) (fun _ => rfl) (fun _ => rfl) (fun u H locs hw hP hD hS => ?_)
        obtain ⟨f_20, n_21⟩ := u
        try dsimp only at hw
        have hP : va_P D vwCl (prw y ad (sI (tI (sI (tI (sI (tI (sI (sI (sI (sI (sI (sI (sI (sI (sI σ 36 n_2) 37 n_3) 33 n_4) 34 n_5) 36 n_9) 37 n_10) 33 n_11) 34 n_12) 35 n_13) 71 f_14) 65 n_15) 72 f_16) 66 n_17) 72 f_20) 66 n_21)) H := hP
        have hD : va_D A (prw y ad (sI (tI (sI (tI (sI (tI (sI (sI (sI (sI (sI (sI (sI (sI (sI σ 36 n_2) 37 n_3) 33 n_4) 34 n_5) 36 n_9) 37 n_10) 33 n_11) 34 n_12) 35 n_13) 71 f_14) 65 n_15) 72 f_16) 66 n_17) 72 f_20) 66 n_21)) := hD
        replace hw : 0 ≤ n_21.toInt ∧ n_21.toInt ≤ 700 := hw
        refine lv_iconst (v := 1) hx hb dX5_reading_50 (by decide) ?_
        have hP : va_P D vwCl (prw y ad (sI (tI (sI (tI (sI (sI (sI (sI (sI σ 36 n_9) 37 n_10) 33 n_11) 34 n_12) 35 n_13) 71 f_14) 65 n_15) 72 f_20) 66 n_21)) H := hP
        have hD : va_D A (prw y ad (sI (tI (sI (tI (sI (sI (sI (sI (sI σ 36 n_9) 37 n_10) 33 n_11) 34 n_12) 35 n_13) 71 f_14) 65 n_15) 72 f_20) 66 n_21)) := hD
        exact x_zretW (v := 1) (u := (n_9, n_10, n_11, n_12, n_13, f_14, n_15, f_20, n_21)) hx hb hr hQ rfl (by (try dsimp only); exact ⟨by omega, by omega, by omega, by omega, by omega, by omega, by first | decide | omega, by first | omega | exact fun h9 => absurd h9 (by decide)⟩) hP hD hK hS dX5_reading_51 hlocks
      · have kc_18 : r_8.toInt = 0 := by have h9 := c_18; simp only [ge_iff_le, gt_iff_lt, x_lt, x_le, x_eq, ne_eq, Int32.not_lt, Int32.not_le] at h9; simp only [Int32.reduceToInt] at h9; omega
        refine lv_iconst (v := 0) hx hb dX5_reading_36 (by decide) ?_
        have hP : va_P D vwCl (prw y ad (sI (tI (sI (tI (sI (sI (sI (sI (sI σ 36 n_9) 37 n_10) 33 n_11) 34 n_12) 35 n_13) 71 f_14) 65 n_15) 72 f_16) 66 n_17)) H := hP
        have hD : va_D A (prw y ad (sI (tI (sI (tI (sI (sI (sI (sI (sI σ 36 n_9) 37 n_10) 33 n_11) 34 n_12) 35 n_13) 71 f_14) 65 n_15) 72 f_16) 66 n_17)) := hD
        exact x_zretW (v := 0) (u := (n_9, n_10, n_11, n_12, n_13, f_14, n_15, f_16, n_17)) hx hb hr hQ rfl (by (try dsimp only); exact ⟨by omega, by omega, by omega, by omega, by omega, by omega, by first | decide | omega, by first | omega | exact fun h9 => absurd h9 (by decide)⟩) hP hD hK hS dX5_reading_37 hlocks
    · have kc_7 : r_1.toInt < 20 := by have h9 := c_7; simp only [ge_iff_le, gt_iff_lt, x_lt, x_le, x_eq, ne_eq, Int32.not_lt, Int32.not_le] at h9; simp only [Int32.reduceToInt] at h9; omega
      refine lv_aload_n hx hb dX5_reading_18 rfl (lv_at hl 1 rfl) ?_
      refine va_get (D := D) (ci := 4) (v := .ref (ad 60)) (C := RX5) (T := TX5) (N := 8) hx hb hts inX5 hown hK hP 0 prw_o0 rfl 1 (by decide) fl34 (fun _ h9 => h9) rfl dX5_reading_19 ?_
      refine lv_iconst (v := 1) hx hb dX5_reading_22 (by decide) ?_
      refine lv_iload_n hx hb dX5_reading_23 rfl (lv_at hl 0 rfl) ?_
      have hPs : va_P D vwCl (pgw y ad (sI (sI (sI (sI σ 36 n_2) 37 n_3) 33 n_4) 34 n_5)) H := x_suP hP [2, 7, 8, 9, 10, 11, 12] rfl
      have hDs : va_D A (pgw y ad (sI (sI (sI (sI σ 36 n_2) 37 n_3) 33 n_4) 34 n_5)) := x_suD hD [2, 7, 8, 9, 10, 11, 12] rfl (by decide)
      refine x_callvS (b1 := fun (u : (Nat → Int32) × Int32) => (prw y ad (sI (tI (sI (sI (sI (sI σ 36 n_2) 37 n_3) 33 n_4) 34 n_5) 72 u.1) 66 u.2))) [2, 7, 8, 9, 10, 11, 12] (va_runV (As := [.int 1, .int r_1]) (rest := []) ⟨hx, hb, hml, hown, hts⟩ (w_emit l D y H.size ad (sI (sI (sI (sI σ 36 n_2) 37 n_3) 33 n_4) 34 n_5) 1 r_1 (show 0 ≤ ((σ.1 66)).toInt from by first | omega | decide) (show ((σ.1 66)).toInt ≤ 700 from by first | omega | decide)) (cwV 2 hts (goodIn_cons gCLs_1) rfl rfl rfl (by decide +kernel) ⟨by (try dsimp only); omega, by (try dsimp only); omega⟩) (x_preV (q := (RX6, TX6, 13)) hK hPs hDs (ci := 5) (q0 := 0) rfl pgw_o0) rfl rfl hl.1 rfl (lv_room (Nat.le_of_ble_eq_true rfl)) dX5_reading_24 ⟨Nat.le_of_ble_eq_true rfl, Nat.le_of_ble_eq_true rfl⟩) hP hD hS hA rfl (fun _ => rfl) (fun _ => rfl) (fun _ => rfl) (fun u H locs hw hP hD hS => ?_)
      obtain ⟨f_22, n_23⟩ := u
      try dsimp only at hw
      have hP : va_P D vwCl (prw y ad (sI (tI (sI (sI (sI (sI σ 36 n_2) 37 n_3) 33 n_4) 34 n_5) 72 f_22) 66 n_23)) H := hP
      have hD : va_D A (prw y ad (sI (tI (sI (sI (sI (sI σ 36 n_2) 37 n_3) 33 n_4) 34 n_5) 72 f_22) 66 n_23)) := hD
      replace hw : 0 ≤ n_23.toInt ∧ n_23.toInt ≤ 700 := hw
      refine lv_iconst (v := 1) hx hb dX5_reading_27 (by decide) ?_
      have hP : va_P D vwCl (prw y ad (sI (tI (sI (tI (sI (sI (sI (sI (sI σ 36 n_2) 37 n_3) 33 n_4) 34 n_5) 35 (σ.1 35)) 71 (σ.2.2.1 71)) 65 (σ.1 65)) 72 f_22) 66 n_23)) H := hP
      have hD : va_D A (prw y ad (sI (tI (sI (tI (sI (sI (sI (sI (sI σ 36 n_2) 37 n_3) 33 n_4) 34 n_5) 35 (σ.1 35)) 71 (σ.2.2.1 71)) 65 (σ.1 65)) 72 f_22) 66 n_23)) := hD
      exact x_zretW (v := 1) (u := (n_2, n_3, n_4, n_5, (σ.1 35), (σ.2.2.1 71), (σ.1 65), f_22, n_23)) hx hb hr hQ rfl (by (try dsimp only); exact ⟨by omega, by omega, by omega, by omega, by omega, by omega, by first | decide | omega, by first | omega | exact fun h9 => absurd h9 (by decide)⟩) hP hD hK hS dX5_reading_28 hlocks
  · have kc_6 : r_1.toInt = (-1) := by have h9 := c_6; simp only [ge_iff_le, gt_iff_lt, x_lt, x_le, x_eq, ne_eq, Int32.not_lt, Int32.not_le] at h9; simp only [Int32.reduceToInt] at h9; omega
    refine lv_iconst (v := 0) hx hb dX5_reading_10 (by decide) ?_
    have hP : va_P D vwCl (prw y ad (sI (tI (sI (tI (sI (sI (sI (sI (sI σ 36 n_2) 37 n_3) 33 n_4) 34 n_5) 35 (σ.1 35)) 71 (σ.2.2.1 71)) 65 (σ.1 65)) 72 (σ.2.2.1 72)) 66 (σ.1 66))) H := hP
    have hD : va_D A (prw y ad (sI (tI (sI (tI (sI (sI (sI (sI (sI σ 36 n_2) 37 n_3) 33 n_4) 34 n_5) 35 (σ.1 35)) 71 (σ.2.2.1 71)) 65 (σ.1 65)) 72 (σ.2.2.1 72)) 66 (σ.1 66))) := hD
    exact x_zretW (v := 0) (u := (n_2, n_3, n_4, n_5, (σ.1 35), (σ.2.2.1 71), (σ.1 65), (σ.2.2.1 72), (σ.1 66))) hx hb hr hQ rfl (by (try dsimp only); exact ⟨by omega, by omega, by omega, by omega, by omega, by omega, by first | decide | omega, by first | omega | exact fun h9 => absurd h9 (by decide)⟩) hP hD hK hS dX5_reading_11 hlocks

set_option maxHeartbeats 4000000 in
set_option maxRecDepth 100000 in
theorem z_ofOneR (l : Launch) (D : va_G) (y : Nat → ClassId) (sz : Nat) (ad : Nat → Nat) (σ : OS) (d : Nat) (ihs : ∀ e : Nat, d = e + 1 → C_sum e) (q : Int32) (hdp : 8 - (σ.1 35).toInt ≤ (d : Int)) (hopen0 : 0 ≤ (σ.1 35).toInt) (hopen1 : (σ.1 35).toInt ≤ 8) (htcount0 : 0 ≤ (σ.1 45).toInt) (htcount1 : (σ.1 45).toInt ≤ 700) (hlength0 : 0 ≤ (σ.1 66).toInt) (hlength1 : (σ.1 66).toInt ≤ 700) (hnumbers0 : 0 ≤ (σ.1 65).toInt) (hnumbers1 : (σ.1 65).toInt ≤ 350) (hnames0 : 0 ≤ (σ.1 68).toInt) (hnames1 : (σ.1 68).toInt ≤ 24) : Met l yX5_ofOne v_z_ofOneR ({ frames := 5 * d + 17, cells := 0, slots := 0, locals := 150 * d + 510 } : Room) (va_Pc [.ref (ad 30), .int q] (xPre D (xT y) (prw y ad σ) sz)) (va_Qi (fun (r : Int32) (u : Int32 × Int32 × Int32 × Int32 × Int32 × (Nat → Int32) × Int32 × (Nat → Int32) × Int32) => 0 ≤ u.2.2.2.2.1.toInt ∧ u.2.2.2.2.1.toInt ≤ 8 ∧ 0 ≤ u.2.2.2.2.2.2.2.2.toInt ∧ u.2.2.2.2.2.2.2.2.toInt ≤ 700 ∧ 0 ≤ u.2.2.2.2.2.2.1.toInt ∧ u.2.2.2.2.2.2.1.toInt ≤ 350 ∧ (r.toInt = 0 ∨ r.toInt = 1) ∧ (r.toInt = 1 → u.2.2.2.2.1.toInt = (σ.1 35).toInt)) (fun (u : Int32 × Int32 × Int32 × Int32 × Int32 × (Nat → Int32) × Int32 × (Nat → Int32) × Int32) => xB D (xT y) (va_A (prw y ad σ) sz) (prw y ad (sI (tI (sI (tI (sI (sI (sI (sI (sI σ 36 u.1) 37 u.2.1) 33 u.2.2.1) 34 u.2.2.2.1) 35 u.2.2.2.2.1) 71 u.2.2.2.2.2.1) 65 u.2.2.2.2.2.2.1) 72 u.2.2.2.2.2.2.2.1) 66 u.2.2.2.2.2.2.2.2))) (va_A (prw y ad σ) sz)) 0 0 (va_A (prw y ad σ) sz) := by
  refine x_meti (cc := cX5_ofOne) (maxL := 2) (by decide) rfl (Nat.le_of_ble_eq_true rfl) ?_
  intro p e s m below meth c A H locs Q hx hb hml hown hts hr hlocks hmn hA hP hK hD hS ls hl hQ
  have hl : lv_has ls 2 [(0, .ref (ad 30)), (1, .int q)] := hl
  have kk_40 : (40 : Int32).toInt = 40 := rfl
  have kk_0 : (0 : Int32).toInt = 0 := rfl
  have kk_41 : (41 : Int32).toInt = 41 := rfl
  have fl34 := hts (.fieldLink RX5 34 "SlopeRunner$Parser" "into" "LSlopeRunner$Program;") (List.mem_of_getElem? (i := 7) rfl)
  have inX5 : ∀ w ∈ wsX50, w ∈ v_z_ofOneR := (fun w h => List.mem_cons_of_mem _ (List.mem_append_right _ (List.mem_append_right _ (List.mem_append_right _ (List.mem_append_right _ (List.mem_append_right _ (List.mem_append_right _ (List.mem_append_right _ (List.mem_append_right _ (List.mem_append_right _ h))))))))))
  have kk_1 : (1 : Int32).toInt = 1 := rfl
  refine lv_aload_n hx hb dX5_ofOne_0 rfl (lv_at hl 0 rfl) ?_
  refine x_callvW (va_runV (As := []) (rest := []) ⟨hx, hb, hml, hown, hts⟩ (z_pass l D y H.size ad σ (show 0 ≤ ((σ.1 45)).toInt from by first | omega | decide) (show ((σ.1 45)).toInt ≤ 700 from by first | omega | decide)) (cwV 0 hts (goodIn_cons gCLs_0) rfl rfl rfl (by decide +kernel) ⟨by (try dsimp only); omega, by (try dsimp only); omega⟩) (x_preV (q := (RX5, TX5, 8)) hK hP hD (ci := 4) (q0 := 0) rfl prw_o0) rfl rfl hl.1 rfl (lv_room (Nat.le_of_ble_eq_true rfl)) dX5_ofOne_1 ⟨Nat.le_of_ble_eq_true rfl, Nat.le_of_ble_eq_true rfl⟩) hP hD hS hA (fun u H locs hw hP hD hS => ?_)
  obtain ⟨n_1, n_2⟩ := u
  try dsimp only at hw
  have hP : va_P D vwCl (prw y ad (sI (sI σ 33 n_1) 34 n_2)) H := hP
  have hD : va_D A (prw y ad (sI (sI σ 33 n_1) 34 n_2)) := hD
  replace hw : True := hw
  refine lv_aload_n hx hb dX5_ofOne_4 rfl (lv_at hl 0 rfl) ?_
  refine lv_bipush (v := 40) hx hb dX5_ofOne_5 (by decide) ?_
  refine x_calliW (va_runV (As := [.int 40]) (rest := []) ⟨hx, hb, hml, hown, hts⟩ (z_openWith l D y H.size ad (sI (sI σ 33 n_1) 34 n_2) 40 (show 0 ≤ ((σ.1 45)).toInt from by first | omega | decide) (show ((σ.1 45)).toInt ≤ 700 from by first | omega | decide) (show 0 ≤ ((σ.1 35)).toInt from by first | omega | decide) (show ((σ.1 35)).toInt ≤ 8 from by first | omega | decide)) (cwV 1 hts (goodIn_cons gCLs_2) rfl rfl rfl (by decide +kernel) ⟨by (try dsimp only); omega, by (try dsimp only); omega⟩) (x_preV (q := (RX5, TX5, 8)) hK hP hD (ci := 4) (q0 := 0) rfl prw_o0) rfl rfl hl.1 rfl (lv_room (Nat.le_of_ble_eq_true rfl)) dX5_ofOne_7 ⟨Nat.le_of_ble_eq_true rfl, Nat.le_of_ble_eq_true rfl⟩) hP hD hS hA (fun r_3 u H locs hw hP hD hS => ?_)
  obtain ⟨n_4, n_5, n_6, n_7, n_8⟩ := u
  try dsimp only at hw
  have hP : va_P D vwCl (prw y ad (sI (sI (sI (sI (sI (sI (sI σ 33 n_1) 34 n_2) 33 n_4) 34 n_5) 35 n_6) 36 n_7) 37 n_8)) H := hP
  have hD : va_D A (prw y ad (sI (sI (sI (sI (sI (sI (sI σ 33 n_1) 34 n_2) 33 n_4) 34 n_5) 35 n_6) 36 n_7) 37 n_8)) := hD
  replace hw : (r_3.toInt = 1 ∧ n_6.toInt = ((σ.1 35)).toInt + 1 ∧ n_6.toInt ≤ 8) ∨ (r_3.toInt = 0 ∧ n_6 = (σ.1 35)) := hw
  rcases hw with ⟨hoa, hob, hoc⟩ | ⟨hoa, hob⟩
  · skip
    refine lv_if_eq (tgt := 29) hx hb dX5_ofOne_10 (by decide) (fun c_9 => ?_) (fun c_9 => ?_)
    · have kc_9 : r_3.toInt = 0 := by have h9 := c_9; simp only [ge_iff_le, gt_iff_lt, x_lt, x_le, x_eq, ne_eq, Int32.not_lt, Int32.not_le] at h9; simp only [Int32.reduceToInt] at h9; omega
      exfalso
      omega
    · have kc_9 : r_3.toInt ≠ 0 := by have h9 := c_9; simp only [ge_iff_le, gt_iff_lt, x_lt, x_le, x_eq, ne_eq, Int32.not_lt, Int32.not_le] at h9; simp only [Int32.reduceToInt] at h9; omega
      refine lv_aload_n hx hb dX5_ofOne_13 rfl (lv_at hl 0 rfl) ?_
      obtain ⟨e9, he9⟩ : ∃ e9, d = e9 + 1 := ⟨d - 1, by omega⟩
      refine x_calliW (va_runV (As := []) (rest := []) ⟨hx, hb, hml, hown, hts⟩ ((ihs e9 he9) l D y H.size ad (sI (sI (sI (sI (sI (sI (sI σ 33 n_1) 34 n_2) 33 n_4) 34 n_5) 35 n_6) 36 n_7) 37 n_8) (show 8 - (n_6).toInt ≤ (e9 : Int) from by first | omega | decide) (show 0 ≤ (n_6).toInt from by first | omega | decide) (show (n_6).toInt ≤ 8 from by first | omega | decide) (show 0 ≤ ((σ.1 45)).toInt from by first | omega | decide) (show ((σ.1 45)).toInt ≤ 700 from by first | omega | decide) (show 0 ≤ ((σ.1 66)).toInt from by first | omega | decide) (show ((σ.1 66)).toInt ≤ 700 from by first | omega | decide) (show 0 ≤ ((σ.1 65)).toInt from by first | omega | decide) (show ((σ.1 65)).toInt ≤ 350 from by first | omega | decide) (show 0 ≤ ((σ.1 68)).toInt from by first | omega | decide) (show ((σ.1 68)).toInt ≤ 24 from by first | omega | decide)) (cwV 0 hts (goodIn_cl hCLs (List.mem_of_getElem? (i := 11) rfl) (List.mem_of_getElem? (i := 12) rfl) (List.mem_of_getElem? (i := 13) rfl) (List.mem_of_getElem? (i := 3) rfl) (List.mem_of_getElem? (i := 14) rfl)) rfl rfl rfl (by decide +kernel) ⟨by (try dsimp only); omega, by (try dsimp only); omega⟩) (x_preV (q := (RX5, TX5, 8)) hK hP hD (ci := 4) (q0 := 0) rfl prw_o0) rfl rfl hl.1 rfl (lv_room (Nat.le_of_ble_eq_true rfl)) dX5_ofOne_14 ⟨Nat.le_of_ble_eq_true rfl, Nat.le_of_ble_eq_true rfl⟩) hP hD hS hA (fun r_10 u H locs hw hP hD hS => ?_)
      obtain ⟨n_11, n_12, n_13, n_14, n_15, f_16, n_17, f_18, n_19⟩ := u
      try dsimp only at hw
      have hP : va_P D vwCl (prw y ad (sI (tI (sI (tI (sI (sI (sI (sI (sI (sI (sI (sI (sI (sI (sI (sI σ 33 n_1) 34 n_2) 33 n_4) 34 n_5) 35 n_6) 36 n_7) 37 n_8) 36 n_11) 37 n_12) 33 n_13) 34 n_14) 35 n_15) 71 f_16) 65 n_17) 72 f_18) 66 n_19)) H := hP
      have hD : va_D A (prw y ad (sI (tI (sI (tI (sI (sI (sI (sI (sI (sI (sI (sI (sI (sI (sI (sI σ 33 n_1) 34 n_2) 33 n_4) 34 n_5) 35 n_6) 36 n_7) 37 n_8) 36 n_11) 37 n_12) 33 n_13) 34 n_14) 35 n_15) 71 f_16) 65 n_17) 72 f_18) 66 n_19)) := hD
      replace hw : 0 ≤ n_15.toInt ∧ n_15.toInt ≤ 8 ∧ 0 ≤ n_19.toInt ∧ n_19.toInt ≤ 700 ∧ 0 ≤ n_17.toInt ∧ n_17.toInt ≤ 350 ∧ (r_10.toInt = 0 ∨ r_10.toInt = 1) ∧ (r_10.toInt = 1 → n_15.toInt = (n_6).toInt) := hw
      obtain ⟨ho1, hp1, hq1, hr1, hs1, ht1, hu1, hv1⟩ := hw
      have hw := hu1
      refine lv_if_eq (tgt := 29) hx hb dX5_ofOne_17 (by decide) (fun c_20 => ?_) (fun c_20 => ?_)
      · have kc_20 : r_10.toInt = 0 := by have h9 := c_20; simp only [ge_iff_le, gt_iff_lt, x_lt, x_le, x_eq, ne_eq, Int32.not_lt, Int32.not_le] at h9; simp only [Int32.reduceToInt] at h9; omega
        refine lv_iconst (v := 0) hx hb dX5_ofOne_29 (by decide) ?_
        have hP : va_P D vwCl (prw y ad (sI (tI (sI (tI (sI (sI (sI (sI (sI σ 36 n_11) 37 n_12) 33 n_13) 34 n_14) 35 n_15) 71 f_16) 65 n_17) 72 f_18) 66 n_19)) H := hP
        have hD : va_D A (prw y ad (sI (tI (sI (tI (sI (sI (sI (sI (sI σ 36 n_11) 37 n_12) 33 n_13) 34 n_14) 35 n_15) 71 f_16) 65 n_17) 72 f_18) 66 n_19)) := hD
        exact x_zretW (v := 0) (u := (n_11, n_12, n_13, n_14, n_15, f_16, n_17, f_18, n_19)) hx hb hr hQ rfl (by (try dsimp only); exact ⟨by omega, by omega, by omega, by omega, by omega, by omega, by first | decide | omega, by first | omega | exact fun h9 => absurd h9 (by decide)⟩) hP hD hK hS dX5_ofOne_30 hlocks
      · have kc_20 : r_10.toInt ≠ 0 := by have h9 := c_20; simp only [ge_iff_le, gt_iff_lt, x_lt, x_le, x_eq, ne_eq, Int32.not_lt, Int32.not_le] at h9; simp only [Int32.reduceToInt] at h9; omega
        refine lv_aload_n hx hb dX5_ofOne_20 rfl (lv_at hl 0 rfl) ?_
        refine lv_bipush (v := 41) hx hb dX5_ofOne_21 (by decide) ?_
        refine x_calliW (va_runV (As := [.int 41]) (rest := []) ⟨hx, hb, hml, hown, hts⟩ (z_closeWith l D y H.size ad (sI (tI (sI (tI (sI (sI (sI (sI (sI (sI (sI (sI (sI (sI (sI (sI σ 33 n_1) 34 n_2) 33 n_4) 34 n_5) 35 n_6) 36 n_7) 37 n_8) 36 n_11) 37 n_12) 33 n_13) 34 n_14) 35 n_15) 71 f_16) 65 n_17) 72 f_18) 66 n_19) 41 (show 0 ≤ ((σ.1 45)).toInt from by first | omega | decide) (show ((σ.1 45)).toInt ≤ 700 from by first | omega | decide) (show 1 ≤ (n_15).toInt from by first | omega | decide) (show (n_15).toInt ≤ 8 from by first | omega | decide)) (cwV 1 hts (goodIn_cons gCLs_3) rfl rfl rfl (by decide +kernel) ⟨by (try dsimp only); omega, by (try dsimp only); omega⟩) (x_preV (q := (RX5, TX5, 8)) hK hP hD (ci := 4) (q0 := 0) rfl prw_o0) rfl rfl hl.1 rfl (lv_room (Nat.le_of_ble_eq_true rfl)) dX5_ofOne_23 ⟨Nat.le_of_ble_eq_true rfl, Nat.le_of_ble_eq_true rfl⟩) hP hD hS hA (fun r_21 u H locs hw hP hD hS => ?_)
        obtain ⟨n_22, n_23, n_24, n_25, n_26⟩ := u
        try dsimp only at hw
        have hP : va_P D vwCl (prw y ad (sI (sI (sI (sI (sI (sI (tI (sI (tI (sI (sI (sI (sI (sI (sI (sI (sI (sI (sI (sI (sI σ 33 n_1) 34 n_2) 33 n_4) 34 n_5) 35 n_6) 36 n_7) 37 n_8) 36 n_11) 37 n_12) 33 n_13) 34 n_14) 35 n_15) 71 f_16) 65 n_17) 72 f_18) 66 n_19) 33 n_22) 34 n_23) 35 n_24) 36 n_25) 37 n_26)) H := hP
        have hD : va_D A (prw y ad (sI (sI (sI (sI (sI (sI (tI (sI (tI (sI (sI (sI (sI (sI (sI (sI (sI (sI (sI (sI (sI σ 33 n_1) 34 n_2) 33 n_4) 34 n_5) 35 n_6) 36 n_7) 37 n_8) 36 n_11) 37 n_12) 33 n_13) 34 n_14) 35 n_15) 71 f_16) 65 n_17) 72 f_18) 66 n_19) 33 n_22) 34 n_23) 35 n_24) 36 n_25) 37 n_26)) := hD
        replace hw : (r_21.toInt = 1 ∧ n_24.toInt = (n_15).toInt - 1) ∨ (r_21.toInt = 0 ∧ n_24 = n_15) := hw
        rcases hw with ⟨hca, hcb⟩ | ⟨hca, hcb⟩
        · skip
          refine lv_if_ne (tgt := 31) hx hb dX5_ofOne_26 (by decide) (fun c_27 => ?_) (fun c_27 => ?_)
          · have kc_27 : r_21.toInt ≠ 0 := by have h9 := c_27; simp only [ge_iff_le, gt_iff_lt, x_lt, x_le, x_eq, ne_eq, Int32.not_lt, Int32.not_le] at h9; simp only [Int32.reduceToInt] at h9; omega
            refine lv_aload_n hx hb dX5_ofOne_31 rfl (lv_at hl 0 rfl) ?_
            refine va_get (D := D) (ci := 4) (v := .ref (ad 60)) (C := RX5) (T := TX5) (N := 8) hx hb hts inX5 hown hK hP 0 prw_o0 rfl 1 (by decide) fl34 (fun _ h9 => h9) rfl dX5_ofOne_32 ?_
            refine lv_iload_n hx hb dX5_ofOne_35 rfl (lv_at hl 1 rfl) ?_
            refine lv_iconst (v := 0) hx hb dX5_ofOne_36 (by decide) ?_
            have hPs : va_P D vwCl (pgw y ad (sI (sI (sI (sI (sI (sI (tI (sI (tI (sI (sI (sI (sI (sI (sI (sI (sI (sI (sI (sI (sI σ 33 n_1) 34 n_2) 33 n_4) 34 n_5) 35 n_6) 36 n_7) 37 n_8) 36 n_11) 37 n_12) 33 n_13) 34 n_14) 35 n_15) 71 f_16) 65 n_17) 72 f_18) 66 n_19) 33 n_22) 34 n_23) 35 n_24) 36 n_25) 37 n_26)) H := x_suP hP [2, 7, 8, 9, 10, 11, 12] rfl
            have hDs : va_D A (pgw y ad (sI (sI (sI (sI (sI (sI (tI (sI (tI (sI (sI (sI (sI (sI (sI (sI (sI (sI (sI (sI (sI σ 33 n_1) 34 n_2) 33 n_4) 34 n_5) 35 n_6) 36 n_7) 37 n_8) 36 n_11) 37 n_12) 33 n_13) 34 n_14) 35 n_15) 71 f_16) 65 n_17) 72 f_18) 66 n_19) 33 n_22) 34 n_23) 35 n_24) 36 n_25) 37 n_26)) := x_suD hD [2, 7, 8, 9, 10, 11, 12] rfl (by decide)
            refine x_callvS (b1 := fun (u : (Nat → Int32) × Int32) => (prw y ad (sI (tI (sI (sI (sI (sI (sI (sI (tI (sI (tI (sI (sI (sI (sI (sI (sI (sI (sI (sI (sI (sI (sI σ 33 n_1) 34 n_2) 33 n_4) 34 n_5) 35 n_6) 36 n_7) 37 n_8) 36 n_11) 37 n_12) 33 n_13) 34 n_14) 35 n_15) 71 f_16) 65 n_17) 72 f_18) 66 n_19) 33 n_22) 34 n_23) 35 n_24) 36 n_25) 37 n_26) 72 u.1) 66 u.2))) [2, 7, 8, 9, 10, 11, 12] (va_runV (As := [.int q, .int 0]) (rest := []) ⟨hx, hb, hml, hown, hts⟩ (w_emit l D y H.size ad (sI (sI (sI (sI (sI (sI (tI (sI (tI (sI (sI (sI (sI (sI (sI (sI (sI (sI (sI (sI (sI σ 33 n_1) 34 n_2) 33 n_4) 34 n_5) 35 n_6) 36 n_7) 37 n_8) 36 n_11) 37 n_12) 33 n_13) 34 n_14) 35 n_15) 71 f_16) 65 n_17) 72 f_18) 66 n_19) 33 n_22) 34 n_23) 35 n_24) 36 n_25) 37 n_26) q 0 (show 0 ≤ (n_19).toInt from by first | omega | decide) (show (n_19).toInt ≤ 700 from by first | omega | decide)) (cwV 2 hts (goodIn_cons gCLs_1) rfl rfl rfl (by decide +kernel) ⟨by (try dsimp only); omega, by (try dsimp only); omega⟩) (x_preV (q := (RX6, TX6, 13)) hK hPs hDs (ci := 5) (q0 := 0) rfl pgw_o0) rfl rfl hl.1 rfl (lv_room (Nat.le_of_ble_eq_true rfl)) dX5_ofOne_37 ⟨Nat.le_of_ble_eq_true rfl, Nat.le_of_ble_eq_true rfl⟩) hP hD hS hA rfl (fun _ => rfl) (fun _ => rfl) (fun _ => rfl) (fun u H locs hw hP hD hS => ?_)
            obtain ⟨f_28, n_29⟩ := u
            try dsimp only at hw
            have hP : va_P D vwCl (prw y ad (sI (tI (sI (sI (sI (sI (sI (sI (tI (sI (tI (sI (sI (sI (sI (sI (sI (sI (sI (sI (sI (sI (sI σ 33 n_1) 34 n_2) 33 n_4) 34 n_5) 35 n_6) 36 n_7) 37 n_8) 36 n_11) 37 n_12) 33 n_13) 34 n_14) 35 n_15) 71 f_16) 65 n_17) 72 f_18) 66 n_19) 33 n_22) 34 n_23) 35 n_24) 36 n_25) 37 n_26) 72 f_28) 66 n_29)) H := hP
            have hD : va_D A (prw y ad (sI (tI (sI (sI (sI (sI (sI (sI (tI (sI (tI (sI (sI (sI (sI (sI (sI (sI (sI (sI (sI (sI (sI σ 33 n_1) 34 n_2) 33 n_4) 34 n_5) 35 n_6) 36 n_7) 37 n_8) 36 n_11) 37 n_12) 33 n_13) 34 n_14) 35 n_15) 71 f_16) 65 n_17) 72 f_18) 66 n_19) 33 n_22) 34 n_23) 35 n_24) 36 n_25) 37 n_26) 72 f_28) 66 n_29)) := hD
            replace hw : 0 ≤ n_29.toInt ∧ n_29.toInt ≤ 700 := hw
            refine lv_iconst (v := 1) hx hb dX5_ofOne_40 (by decide) ?_
            have hP : va_P D vwCl (prw y ad (sI (tI (sI (tI (sI (sI (sI (sI (sI σ 36 n_25) 37 n_26) 33 n_22) 34 n_23) 35 n_24) 71 f_16) 65 n_17) 72 f_28) 66 n_29)) H := hP
            have hD : va_D A (prw y ad (sI (tI (sI (tI (sI (sI (sI (sI (sI σ 36 n_25) 37 n_26) 33 n_22) 34 n_23) 35 n_24) 71 f_16) 65 n_17) 72 f_28) 66 n_29)) := hD
            exact x_zretW (v := 1) (u := (n_25, n_26, n_22, n_23, n_24, f_16, n_17, f_28, n_29)) hx hb hr hQ rfl (by (try dsimp only); exact ⟨by omega, by omega, by omega, by omega, by omega, by omega, by first | decide | omega, by first | omega | exact fun h9 => absurd h9 (by decide)⟩) hP hD hK hS dX5_ofOne_41 hlocks
          · have kc_27 : r_21.toInt = 0 := by have h9 := c_27; simp only [ge_iff_le, gt_iff_lt, x_lt, x_le, x_eq, ne_eq, Int32.not_lt, Int32.not_le] at h9; simp only [Int32.reduceToInt] at h9; omega
            exfalso
            omega
        · have hcc : n_24.toInt = n_15.toInt := by rw [hcb]
          refine lv_if_ne (tgt := 31) hx hb dX5_ofOne_26 (by decide) (fun c_30 => ?_) (fun c_30 => ?_)
          · have kc_30 : r_21.toInt ≠ 0 := by have h9 := c_30; simp only [ge_iff_le, gt_iff_lt, x_lt, x_le, x_eq, ne_eq, Int32.not_lt, Int32.not_le] at h9; simp only [Int32.reduceToInt] at h9; omega
            exfalso
            omega
          · have kc_30 : r_21.toInt = 0 := by have h9 := c_30; simp only [ge_iff_le, gt_iff_lt, x_lt, x_le, x_eq, ne_eq, Int32.not_lt, Int32.not_le] at h9; simp only [Int32.reduceToInt] at h9; omega
            refine lv_iconst (v := 0) hx hb dX5_ofOne_29 (by decide) ?_
            have hP : va_P D vwCl (prw y ad (sI (tI (sI (tI (sI (sI (sI (sI (sI σ 36 n_25) 37 n_26) 33 n_22) 34 n_23) 35 n_24) 71 f_16) 65 n_17) 72 f_18) 66 n_19)) H := hP
            have hD : va_D A (prw y ad (sI (tI (sI (tI (sI (sI (sI (sI (sI σ 36 n_25) 37 n_26) 33 n_22) 34 n_23) 35 n_24) 71 f_16) 65 n_17) 72 f_18) 66 n_19)) := hD
            exact x_zretW (v := 0) (u := (n_25, n_26, n_22, n_23, n_24, f_16, n_17, f_18, n_19)) hx hb hr hQ rfl (by (try dsimp only); exact ⟨by omega, by omega, by omega, by omega, by omega, by omega, by first | decide | omega, by first | omega | exact fun h9 => absurd h9 (by decide)⟩) hP hD hK hS dX5_ofOne_30 hlocks
  · have hoc : n_6.toInt = (σ.1 35).toInt := by rw [hob]
    refine lv_if_eq (tgt := 29) hx hb dX5_ofOne_10 (by decide) (fun c_31 => ?_) (fun c_31 => ?_)
    · have kc_31 : r_3.toInt = 0 := by have h9 := c_31; simp only [ge_iff_le, gt_iff_lt, x_lt, x_le, x_eq, ne_eq, Int32.not_lt, Int32.not_le] at h9; simp only [Int32.reduceToInt] at h9; omega
      refine lv_iconst (v := 0) hx hb dX5_ofOne_29 (by decide) ?_
      have hP : va_P D vwCl (prw y ad (sI (tI (sI (tI (sI (sI (sI (sI (sI σ 36 n_7) 37 n_8) 33 n_4) 34 n_5) 35 n_6) 71 (σ.2.2.1 71)) 65 (σ.1 65)) 72 (σ.2.2.1 72)) 66 (σ.1 66))) H := hP
      have hD : va_D A (prw y ad (sI (tI (sI (tI (sI (sI (sI (sI (sI σ 36 n_7) 37 n_8) 33 n_4) 34 n_5) 35 n_6) 71 (σ.2.2.1 71)) 65 (σ.1 65)) 72 (σ.2.2.1 72)) 66 (σ.1 66))) := hD
      exact x_zretW (v := 0) (u := (n_7, n_8, n_4, n_5, n_6, (σ.2.2.1 71), (σ.1 65), (σ.2.2.1 72), (σ.1 66))) hx hb hr hQ rfl (by (try dsimp only); exact ⟨by omega, by omega, by omega, by omega, by omega, by omega, by first | decide | omega, by first | omega | exact fun h9 => absurd h9 (by decide)⟩) hP hD hK hS dX5_ofOne_30 hlocks
    · have kc_31 : r_3.toInt ≠ 0 := by have h9 := c_31; simp only [ge_iff_le, gt_iff_lt, x_lt, x_le, x_eq, ne_eq, Int32.not_lt, Int32.not_le] at h9; simp only [Int32.reduceToInt] at h9; omega
      exfalso
      omega

set_option maxHeartbeats 4000000 in
set_option maxRecDepth 100000 in
theorem z_ofTwoR (l : Launch) (D : va_G) (y : Nat → ClassId) (sz : Nat) (ad : Nat → Nat) (σ : OS) (d : Nat) (ihs : ∀ e : Nat, d = e + 1 → C_sum e) (q : Int32) (hdp : 8 - (σ.1 35).toInt ≤ (d : Int)) (hopen0 : 0 ≤ (σ.1 35).toInt) (hopen1 : (σ.1 35).toInt ≤ 8) (htcount0 : 0 ≤ (σ.1 45).toInt) (htcount1 : (σ.1 45).toInt ≤ 700) (hlength0 : 0 ≤ (σ.1 66).toInt) (hlength1 : (σ.1 66).toInt ≤ 700) (hnumbers0 : 0 ≤ (σ.1 65).toInt) (hnumbers1 : (σ.1 65).toInt ≤ 350) (hnames0 : 0 ≤ (σ.1 68).toInt) (hnames1 : (σ.1 68).toInt ≤ 24) : Met l yX5_ofTwo v_z_ofTwoR ({ frames := 5 * d + 17, cells := 0, slots := 0, locals := 150 * d + 510 } : Room) (va_Pc [.ref (ad 30), .int q] (xPre D (xT y) (prw y ad σ) sz)) (va_Qi (fun (r : Int32) (u : Int32 × Int32 × Int32 × Int32 × Int32 × (Nat → Int32) × Int32 × (Nat → Int32) × Int32) => 0 ≤ u.2.2.2.2.1.toInt ∧ u.2.2.2.2.1.toInt ≤ 8 ∧ 0 ≤ u.2.2.2.2.2.2.2.2.toInt ∧ u.2.2.2.2.2.2.2.2.toInt ≤ 700 ∧ 0 ≤ u.2.2.2.2.2.2.1.toInt ∧ u.2.2.2.2.2.2.1.toInt ≤ 350 ∧ (r.toInt = 0 ∨ r.toInt = 1) ∧ (r.toInt = 1 → u.2.2.2.2.1.toInt = (σ.1 35).toInt)) (fun (u : Int32 × Int32 × Int32 × Int32 × Int32 × (Nat → Int32) × Int32 × (Nat → Int32) × Int32) => xB D (xT y) (va_A (prw y ad σ) sz) (prw y ad (sI (tI (sI (tI (sI (sI (sI (sI (sI σ 36 u.1) 37 u.2.1) 33 u.2.2.1) 34 u.2.2.2.1) 35 u.2.2.2.2.1) 71 u.2.2.2.2.2.1) 65 u.2.2.2.2.2.2.1) 72 u.2.2.2.2.2.2.2.1) 66 u.2.2.2.2.2.2.2.2))) (va_A (prw y ad σ) sz)) 0 0 (va_A (prw y ad σ) sz) := by
  refine x_meti (cc := cX5_ofTwo) (maxL := 2) (by decide) rfl (Nat.le_of_ble_eq_true rfl) ?_
  intro p e s m below meth c A H locs Q hx hb hml hown hts hr hlocks hmn hA hP hK hD hS ls hl hQ
  have hl : lv_has ls 2 [(0, .ref (ad 30)), (1, .int q)] := hl
  have kk_40 : (40 : Int32).toInt = 40 := rfl
  have kk_0 : (0 : Int32).toInt = 0 := rfl
  have kk_44 : (44 : Int32).toInt = 44 := rfl
  have kk_41 : (41 : Int32).toInt = 41 := rfl
  have fl34 := hts (.fieldLink RX5 34 "SlopeRunner$Parser" "into" "LSlopeRunner$Program;") (List.mem_of_getElem? (i := 7) rfl)
  have inX5 : ∀ w ∈ wsX50, w ∈ v_z_ofTwoR := (fun w h => List.mem_cons_of_mem _ (List.mem_append_right _ (List.mem_append_right _ (List.mem_append_right _ (List.mem_append_right _ (List.mem_append_right _ (List.mem_append_right _ (List.mem_append_right _ (List.mem_append_right _ (List.mem_append_right _ h))))))))))
  have kk_1 : (1 : Int32).toInt = 1 := rfl
  refine lv_aload_n hx hb dX5_ofTwo_0 rfl (lv_at hl 0 rfl) ?_
  refine x_callvW (va_runV (As := []) (rest := []) ⟨hx, hb, hml, hown, hts⟩ (z_pass l D y H.size ad σ (show 0 ≤ ((σ.1 45)).toInt from by first | omega | decide) (show ((σ.1 45)).toInt ≤ 700 from by first | omega | decide)) (cwV 0 hts (goodIn_cons gCLs_0) rfl rfl rfl (by decide +kernel) ⟨by (try dsimp only); omega, by (try dsimp only); omega⟩) (x_preV (q := (RX5, TX5, 8)) hK hP hD (ci := 4) (q0 := 0) rfl prw_o0) rfl rfl hl.1 rfl (lv_room (Nat.le_of_ble_eq_true rfl)) dX5_ofTwo_1 ⟨Nat.le_of_ble_eq_true rfl, Nat.le_of_ble_eq_true rfl⟩) hP hD hS hA (fun u H locs hw hP hD hS => ?_)
  obtain ⟨n_1, n_2⟩ := u
  try dsimp only at hw
  have hP : va_P D vwCl (prw y ad (sI (sI σ 33 n_1) 34 n_2)) H := hP
  have hD : va_D A (prw y ad (sI (sI σ 33 n_1) 34 n_2)) := hD
  replace hw : True := hw
  refine lv_aload_n hx hb dX5_ofTwo_4 rfl (lv_at hl 0 rfl) ?_
  refine lv_bipush (v := 40) hx hb dX5_ofTwo_5 (by decide) ?_
  refine x_calliW (va_runV (As := [.int 40]) (rest := []) ⟨hx, hb, hml, hown, hts⟩ (z_openWith l D y H.size ad (sI (sI σ 33 n_1) 34 n_2) 40 (show 0 ≤ ((σ.1 45)).toInt from by first | omega | decide) (show ((σ.1 45)).toInt ≤ 700 from by first | omega | decide) (show 0 ≤ ((σ.1 35)).toInt from by first | omega | decide) (show ((σ.1 35)).toInt ≤ 8 from by first | omega | decide)) (cwV 1 hts (goodIn_cons gCLs_2) rfl rfl rfl (by decide +kernel) ⟨by (try dsimp only); omega, by (try dsimp only); omega⟩) (x_preV (q := (RX5, TX5, 8)) hK hP hD (ci := 4) (q0 := 0) rfl prw_o0) rfl rfl hl.1 rfl (lv_room (Nat.le_of_ble_eq_true rfl)) dX5_ofTwo_7 ⟨Nat.le_of_ble_eq_true rfl, Nat.le_of_ble_eq_true rfl⟩) hP hD hS hA (fun r_3 u H locs hw hP hD hS => ?_)
  obtain ⟨n_4, n_5, n_6, n_7, n_8⟩ := u
  try dsimp only at hw
  have hP : va_P D vwCl (prw y ad (sI (sI (sI (sI (sI (sI (sI σ 33 n_1) 34 n_2) 33 n_4) 34 n_5) 35 n_6) 36 n_7) 37 n_8)) H := hP
  have hD : va_D A (prw y ad (sI (sI (sI (sI (sI (sI (sI σ 33 n_1) 34 n_2) 33 n_4) 34 n_5) 35 n_6) 36 n_7) 37 n_8)) := hD
  replace hw : (r_3.toInt = 1 ∧ n_6.toInt = ((σ.1 35)).toInt + 1 ∧ n_6.toInt ≤ 8) ∨ (r_3.toInt = 0 ∧ n_6 = (σ.1 35)) := hw
  rcases hw with ⟨hoa, hob, hoc⟩ | ⟨hoa, hob⟩
  · skip
    refine lv_if_eq (tgt := 45) hx hb dX5_ofTwo_10 (by decide) (fun c_9 => ?_) (fun c_9 => ?_)
    · have kc_9 : r_3.toInt = 0 := by have h9 := c_9; simp only [ge_iff_le, gt_iff_lt, x_lt, x_le, x_eq, ne_eq, Int32.not_lt, Int32.not_le] at h9; simp only [Int32.reduceToInt] at h9; omega
      exfalso
      omega
    · have kc_9 : r_3.toInt ≠ 0 := by have h9 := c_9; simp only [ge_iff_le, gt_iff_lt, x_lt, x_le, x_eq, ne_eq, Int32.not_lt, Int32.not_le] at h9; simp only [Int32.reduceToInt] at h9; omega
      refine lv_aload_n hx hb dX5_ofTwo_13 rfl (lv_at hl 0 rfl) ?_
      obtain ⟨e9, he9⟩ : ∃ e9, d = e9 + 1 := ⟨d - 1, by omega⟩
      refine x_calliW (va_runV (As := []) (rest := []) ⟨hx, hb, hml, hown, hts⟩ ((ihs e9 he9) l D y H.size ad (sI (sI (sI (sI (sI (sI (sI σ 33 n_1) 34 n_2) 33 n_4) 34 n_5) 35 n_6) 36 n_7) 37 n_8) (show 8 - (n_6).toInt ≤ (e9 : Int) from by first | omega | decide) (show 0 ≤ (n_6).toInt from by first | omega | decide) (show (n_6).toInt ≤ 8 from by first | omega | decide) (show 0 ≤ ((σ.1 45)).toInt from by first | omega | decide) (show ((σ.1 45)).toInt ≤ 700 from by first | omega | decide) (show 0 ≤ ((σ.1 66)).toInt from by first | omega | decide) (show ((σ.1 66)).toInt ≤ 700 from by first | omega | decide) (show 0 ≤ ((σ.1 65)).toInt from by first | omega | decide) (show ((σ.1 65)).toInt ≤ 350 from by first | omega | decide) (show 0 ≤ ((σ.1 68)).toInt from by first | omega | decide) (show ((σ.1 68)).toInt ≤ 24 from by first | omega | decide)) (cwV 0 hts (goodIn_cl hCLs (List.mem_of_getElem? (i := 11) rfl) (List.mem_of_getElem? (i := 12) rfl) (List.mem_of_getElem? (i := 13) rfl) (List.mem_of_getElem? (i := 3) rfl) (List.mem_of_getElem? (i := 14) rfl)) rfl rfl rfl (by decide +kernel) ⟨by (try dsimp only); omega, by (try dsimp only); omega⟩) (x_preV (q := (RX5, TX5, 8)) hK hP hD (ci := 4) (q0 := 0) rfl prw_o0) rfl rfl hl.1 rfl (lv_room (Nat.le_of_ble_eq_true rfl)) dX5_ofTwo_14 ⟨Nat.le_of_ble_eq_true rfl, Nat.le_of_ble_eq_true rfl⟩) hP hD hS hA (fun r_10 u H locs hw hP hD hS => ?_)
      obtain ⟨n_11, n_12, n_13, n_14, n_15, f_16, n_17, f_18, n_19⟩ := u
      try dsimp only at hw
      have hP : va_P D vwCl (prw y ad (sI (tI (sI (tI (sI (sI (sI (sI (sI (sI (sI (sI (sI (sI (sI (sI σ 33 n_1) 34 n_2) 33 n_4) 34 n_5) 35 n_6) 36 n_7) 37 n_8) 36 n_11) 37 n_12) 33 n_13) 34 n_14) 35 n_15) 71 f_16) 65 n_17) 72 f_18) 66 n_19)) H := hP
      have hD : va_D A (prw y ad (sI (tI (sI (tI (sI (sI (sI (sI (sI (sI (sI (sI (sI (sI (sI (sI σ 33 n_1) 34 n_2) 33 n_4) 34 n_5) 35 n_6) 36 n_7) 37 n_8) 36 n_11) 37 n_12) 33 n_13) 34 n_14) 35 n_15) 71 f_16) 65 n_17) 72 f_18) 66 n_19)) := hD
      replace hw : 0 ≤ n_15.toInt ∧ n_15.toInt ≤ 8 ∧ 0 ≤ n_19.toInt ∧ n_19.toInt ≤ 700 ∧ 0 ≤ n_17.toInt ∧ n_17.toInt ≤ 350 ∧ (r_10.toInt = 0 ∨ r_10.toInt = 1) ∧ (r_10.toInt = 1 → n_15.toInt = (n_6).toInt) := hw
      obtain ⟨ho1, hp1, hq1, hr1, hs1, ht1, hu1, hv1⟩ := hw
      have hw := hu1
      refine lv_if_eq (tgt := 45) hx hb dX5_ofTwo_17 (by decide) (fun c_20 => ?_) (fun c_20 => ?_)
      · have kc_20 : r_10.toInt = 0 := by have h9 := c_20; simp only [ge_iff_le, gt_iff_lt, x_lt, x_le, x_eq, ne_eq, Int32.not_lt, Int32.not_le] at h9; simp only [Int32.reduceToInt] at h9; omega
        refine lv_iconst (v := 0) hx hb dX5_ofTwo_45 (by decide) ?_
        have hP : va_P D vwCl (prw y ad (sI (tI (sI (tI (sI (sI (sI (sI (sI σ 36 n_11) 37 n_12) 33 n_13) 34 n_14) 35 n_15) 71 f_16) 65 n_17) 72 f_18) 66 n_19)) H := hP
        have hD : va_D A (prw y ad (sI (tI (sI (tI (sI (sI (sI (sI (sI σ 36 n_11) 37 n_12) 33 n_13) 34 n_14) 35 n_15) 71 f_16) 65 n_17) 72 f_18) 66 n_19)) := hD
        exact x_zretW (v := 0) (u := (n_11, n_12, n_13, n_14, n_15, f_16, n_17, f_18, n_19)) hx hb hr hQ rfl (by (try dsimp only); exact ⟨by omega, by omega, by omega, by omega, by omega, by omega, by first | decide | omega, by first | omega | exact fun h9 => absurd h9 (by decide)⟩) hP hD hK hS dX5_ofTwo_46 hlocks
      · have kc_20 : r_10.toInt ≠ 0 := by have h9 := c_20; simp only [ge_iff_le, gt_iff_lt, x_lt, x_le, x_eq, ne_eq, Int32.not_lt, Int32.not_le] at h9; simp only [Int32.reduceToInt] at h9; omega
        refine lv_aload_n hx hb dX5_ofTwo_20 rfl (lv_at hl 0 rfl) ?_
        refine lv_bipush (v := 44) hx hb dX5_ofTwo_21 (by decide) ?_
        refine x_calliW (va_runV (As := [.int 44]) (rest := []) ⟨hx, hb, hml, hown, hts⟩ (z_expect l D y H.size ad (sI (tI (sI (tI (sI (sI (sI (sI (sI (sI (sI (sI (sI (sI (sI (sI σ 33 n_1) 34 n_2) 33 n_4) 34 n_5) 35 n_6) 36 n_7) 37 n_8) 36 n_11) 37 n_12) 33 n_13) 34 n_14) 35 n_15) 71 f_16) 65 n_17) 72 f_18) 66 n_19) 44 (show 0 ≤ ((σ.1 45)).toInt from by first | omega | decide) (show ((σ.1 45)).toInt ≤ 700 from by first | omega | decide)) (cwV 1 hts (goodIn_cons gCLs_5) rfl rfl rfl (by decide +kernel) ⟨by (try dsimp only); omega, by (try dsimp only); omega⟩) (x_preV (q := (RX5, TX5, 8)) hK hP hD (ci := 4) (q0 := 0) rfl prw_o0) rfl rfl hl.1 rfl (lv_room (Nat.le_of_ble_eq_true rfl)) dX5_ofTwo_23 ⟨Nat.le_of_ble_eq_true rfl, Nat.le_of_ble_eq_true rfl⟩) hP hD hS hA (fun r_21 u H locs hw hP hD hS => ?_)
        obtain ⟨n_22, n_23, n_24, n_25⟩ := u
        try dsimp only at hw
        have hP : va_P D vwCl (prw y ad (sI (sI (sI (sI (sI (tI (sI (tI (sI (sI (sI (sI (sI (sI (sI (sI (sI (sI (sI (sI σ 33 n_1) 34 n_2) 33 n_4) 34 n_5) 35 n_6) 36 n_7) 37 n_8) 36 n_11) 37 n_12) 33 n_13) 34 n_14) 35 n_15) 71 f_16) 65 n_17) 72 f_18) 66 n_19) 33 n_22) 34 n_23) 36 n_24) 37 n_25)) H := hP
        have hD : va_D A (prw y ad (sI (sI (sI (sI (sI (tI (sI (tI (sI (sI (sI (sI (sI (sI (sI (sI (sI (sI (sI (sI σ 33 n_1) 34 n_2) 33 n_4) 34 n_5) 35 n_6) 36 n_7) 37 n_8) 36 n_11) 37 n_12) 33 n_13) 34 n_14) 35 n_15) 71 f_16) 65 n_17) 72 f_18) 66 n_19) 33 n_22) 34 n_23) 36 n_24) 37 n_25)) := hD
        replace hw : r_21.toInt = 0 ∨ r_21.toInt = 1 := hw
        refine lv_if_eq (tgt := 45) hx hb dX5_ofTwo_26 (by decide) (fun c_26 => ?_) (fun c_26 => ?_)
        · have kc_26 : r_21.toInt = 0 := by have h9 := c_26; simp only [ge_iff_le, gt_iff_lt, x_lt, x_le, x_eq, ne_eq, Int32.not_lt, Int32.not_le] at h9; simp only [Int32.reduceToInt] at h9; omega
          refine lv_iconst (v := 0) hx hb dX5_ofTwo_45 (by decide) ?_
          have hP : va_P D vwCl (prw y ad (sI (tI (sI (tI (sI (sI (sI (sI (sI σ 36 n_24) 37 n_25) 33 n_22) 34 n_23) 35 n_15) 71 f_16) 65 n_17) 72 f_18) 66 n_19)) H := hP
          have hD : va_D A (prw y ad (sI (tI (sI (tI (sI (sI (sI (sI (sI σ 36 n_24) 37 n_25) 33 n_22) 34 n_23) 35 n_15) 71 f_16) 65 n_17) 72 f_18) 66 n_19)) := hD
          exact x_zretW (v := 0) (u := (n_24, n_25, n_22, n_23, n_15, f_16, n_17, f_18, n_19)) hx hb hr hQ rfl (by (try dsimp only); exact ⟨by omega, by omega, by omega, by omega, by omega, by omega, by first | decide | omega, by first | omega | exact fun h9 => absurd h9 (by decide)⟩) hP hD hK hS dX5_ofTwo_46 hlocks
        · have kc_26 : r_21.toInt ≠ 0 := by have h9 := c_26; simp only [ge_iff_le, gt_iff_lt, x_lt, x_le, x_eq, ne_eq, Int32.not_lt, Int32.not_le] at h9; simp only [Int32.reduceToInt] at h9; omega
          refine lv_aload_n hx hb dX5_ofTwo_29 rfl (lv_at hl 0 rfl) ?_
          obtain ⟨e9, he9⟩ : ∃ e9, d = e9 + 1 := ⟨d - 1, by omega⟩
          refine x_calliW (va_runV (As := []) (rest := []) ⟨hx, hb, hml, hown, hts⟩ ((ihs e9 he9) l D y H.size ad (sI (sI (sI (sI (sI (tI (sI (tI (sI (sI (sI (sI (sI (sI (sI (sI (sI (sI (sI (sI σ 33 n_1) 34 n_2) 33 n_4) 34 n_5) 35 n_6) 36 n_7) 37 n_8) 36 n_11) 37 n_12) 33 n_13) 34 n_14) 35 n_15) 71 f_16) 65 n_17) 72 f_18) 66 n_19) 33 n_22) 34 n_23) 36 n_24) 37 n_25) (show 8 - (n_15).toInt ≤ (e9 : Int) from by first | omega | decide) (show 0 ≤ (n_15).toInt from by first | omega | decide) (show (n_15).toInt ≤ 8 from by first | omega | decide) (show 0 ≤ ((σ.1 45)).toInt from by first | omega | decide) (show ((σ.1 45)).toInt ≤ 700 from by first | omega | decide) (show 0 ≤ (n_19).toInt from by first | omega | decide) (show (n_19).toInt ≤ 700 from by first | omega | decide) (show 0 ≤ (n_17).toInt from by first | omega | decide) (show (n_17).toInt ≤ 350 from by first | omega | decide) (show 0 ≤ ((σ.1 68)).toInt from by first | omega | decide) (show ((σ.1 68)).toInt ≤ 24 from by first | omega | decide)) (cwV 0 hts (goodIn_cl hCLs (List.mem_of_getElem? (i := 11) rfl) (List.mem_of_getElem? (i := 12) rfl) (List.mem_of_getElem? (i := 13) rfl) (List.mem_of_getElem? (i := 3) rfl) (List.mem_of_getElem? (i := 14) rfl)) rfl rfl rfl (by decide +kernel) ⟨by (try dsimp only); omega, by (try dsimp only); omega⟩) (x_preV (q := (RX5, TX5, 8)) hK hP hD (ci := 4) (q0 := 0) rfl prw_o0) rfl rfl hl.1 rfl (lv_room (Nat.le_of_ble_eq_true rfl)) dX5_ofTwo_30 ⟨Nat.le_of_ble_eq_true rfl, Nat.le_of_ble_eq_true rfl⟩) hP hD hS hA (fun r_27 u H locs hw hP hD hS => ?_)
          obtain ⟨n_28, n_29, n_30, n_31, n_32, f_33, n_34, f_35, n_36⟩ := u
          try dsimp only at hw
          have hP : va_P D vwCl (prw y ad (sI (tI (sI (tI (sI (sI (sI (sI (sI (sI (sI (sI (sI (sI (tI (sI (tI (sI (sI (sI (sI (sI (sI (sI (sI (sI (sI (sI (sI σ 33 n_1) 34 n_2) 33 n_4) 34 n_5) 35 n_6) 36 n_7) 37 n_8) 36 n_11) 37 n_12) 33 n_13) 34 n_14) 35 n_15) 71 f_16) 65 n_17) 72 f_18) 66 n_19) 33 n_22) 34 n_23) 36 n_24) 37 n_25) 36 n_28) 37 n_29) 33 n_30) 34 n_31) 35 n_32) 71 f_33) 65 n_34) 72 f_35) 66 n_36)) H := hP
          have hD : va_D A (prw y ad (sI (tI (sI (tI (sI (sI (sI (sI (sI (sI (sI (sI (sI (sI (tI (sI (tI (sI (sI (sI (sI (sI (sI (sI (sI (sI (sI (sI (sI σ 33 n_1) 34 n_2) 33 n_4) 34 n_5) 35 n_6) 36 n_7) 37 n_8) 36 n_11) 37 n_12) 33 n_13) 34 n_14) 35 n_15) 71 f_16) 65 n_17) 72 f_18) 66 n_19) 33 n_22) 34 n_23) 36 n_24) 37 n_25) 36 n_28) 37 n_29) 33 n_30) 34 n_31) 35 n_32) 71 f_33) 65 n_34) 72 f_35) 66 n_36)) := hD
          replace hw : 0 ≤ n_32.toInt ∧ n_32.toInt ≤ 8 ∧ 0 ≤ n_36.toInt ∧ n_36.toInt ≤ 700 ∧ 0 ≤ n_34.toInt ∧ n_34.toInt ≤ 350 ∧ (r_27.toInt = 0 ∨ r_27.toInt = 1) ∧ (r_27.toInt = 1 → n_32.toInt = (n_15).toInt) := hw
          obtain ⟨ho2, hp2, hq2, hr2, hs2, ht2, hu2, hv2⟩ := hw
          have hw := hu2
          refine lv_if_eq (tgt := 45) hx hb dX5_ofTwo_33 (by decide) (fun c_37 => ?_) (fun c_37 => ?_)
          · have kc_37 : r_27.toInt = 0 := by have h9 := c_37; simp only [ge_iff_le, gt_iff_lt, x_lt, x_le, x_eq, ne_eq, Int32.not_lt, Int32.not_le] at h9; simp only [Int32.reduceToInt] at h9; omega
            refine lv_iconst (v := 0) hx hb dX5_ofTwo_45 (by decide) ?_
            have hP : va_P D vwCl (prw y ad (sI (tI (sI (tI (sI (sI (sI (sI (sI σ 36 n_28) 37 n_29) 33 n_30) 34 n_31) 35 n_32) 71 f_33) 65 n_34) 72 f_35) 66 n_36)) H := hP
            have hD : va_D A (prw y ad (sI (tI (sI (tI (sI (sI (sI (sI (sI σ 36 n_28) 37 n_29) 33 n_30) 34 n_31) 35 n_32) 71 f_33) 65 n_34) 72 f_35) 66 n_36)) := hD
            exact x_zretW (v := 0) (u := (n_28, n_29, n_30, n_31, n_32, f_33, n_34, f_35, n_36)) hx hb hr hQ rfl (by (try dsimp only); exact ⟨by omega, by omega, by omega, by omega, by omega, by omega, by first | decide | omega, by first | omega | exact fun h9 => absurd h9 (by decide)⟩) hP hD hK hS dX5_ofTwo_46 hlocks
          · have kc_37 : r_27.toInt ≠ 0 := by have h9 := c_37; simp only [ge_iff_le, gt_iff_lt, x_lt, x_le, x_eq, ne_eq, Int32.not_lt, Int32.not_le] at h9; simp only [Int32.reduceToInt] at h9; omega
            refine lv_aload_n hx hb dX5_ofTwo_36 rfl (lv_at hl 0 rfl) ?_
            refine lv_bipush (v := 41) hx hb dX5_ofTwo_37 (by decide) ?_
            refine x_calliW (va_runV (As := [.int 41]) (rest := []) ⟨hx, hb, hml, hown, hts⟩ (z_closeWith l D y H.size ad (sI (tI (sI (tI (sI (sI (sI (sI (sI (sI (sI (sI (sI (sI (tI (sI (tI (sI (sI (sI (sI (sI (sI (sI (sI (sI (sI (sI (sI σ 33 n_1) 34 n_2) 33 n_4) 34 n_5) 35 n_6) 36 n_7) 37 n_8) 36 n_11) 37 n_12) 33 n_13) 34 n_14) 35 n_15) 71 f_16) 65 n_17) 72 f_18) 66 n_19) 33 n_22) 34 n_23) 36 n_24) 37 n_25) 36 n_28) 37 n_29) 33 n_30) 34 n_31) 35 n_32) 71 f_33) 65 n_34) 72 f_35) 66 n_36) 41 (show 0 ≤ ((σ.1 45)).toInt from by first | omega | decide) (show ((σ.1 45)).toInt ≤ 700 from by first | omega | decide) (show 1 ≤ (n_32).toInt from by first | omega | decide) (show (n_32).toInt ≤ 8 from by first | omega | decide)) (cwV 1 hts (goodIn_cons gCLs_3) rfl rfl rfl (by decide +kernel) ⟨by (try dsimp only); omega, by (try dsimp only); omega⟩) (x_preV (q := (RX5, TX5, 8)) hK hP hD (ci := 4) (q0 := 0) rfl prw_o0) rfl rfl hl.1 rfl (lv_room (Nat.le_of_ble_eq_true rfl)) dX5_ofTwo_39 ⟨Nat.le_of_ble_eq_true rfl, Nat.le_of_ble_eq_true rfl⟩) hP hD hS hA (fun r_38 u H locs hw hP hD hS => ?_)
            obtain ⟨n_39, n_40, n_41, n_42, n_43⟩ := u
            try dsimp only at hw
            have hP : va_P D vwCl (prw y ad (sI (sI (sI (sI (sI (sI (tI (sI (tI (sI (sI (sI (sI (sI (sI (sI (sI (sI (sI (tI (sI (tI (sI (sI (sI (sI (sI (sI (sI (sI (sI (sI (sI (sI σ 33 n_1) 34 n_2) 33 n_4) 34 n_5) 35 n_6) 36 n_7) 37 n_8) 36 n_11) 37 n_12) 33 n_13) 34 n_14) 35 n_15) 71 f_16) 65 n_17) 72 f_18) 66 n_19) 33 n_22) 34 n_23) 36 n_24) 37 n_25) 36 n_28) 37 n_29) 33 n_30) 34 n_31) 35 n_32) 71 f_33) 65 n_34) 72 f_35) 66 n_36) 33 n_39) 34 n_40) 35 n_41) 36 n_42) 37 n_43)) H := hP
            have hD : va_D A (prw y ad (sI (sI (sI (sI (sI (sI (tI (sI (tI (sI (sI (sI (sI (sI (sI (sI (sI (sI (sI (tI (sI (tI (sI (sI (sI (sI (sI (sI (sI (sI (sI (sI (sI (sI σ 33 n_1) 34 n_2) 33 n_4) 34 n_5) 35 n_6) 36 n_7) 37 n_8) 36 n_11) 37 n_12) 33 n_13) 34 n_14) 35 n_15) 71 f_16) 65 n_17) 72 f_18) 66 n_19) 33 n_22) 34 n_23) 36 n_24) 37 n_25) 36 n_28) 37 n_29) 33 n_30) 34 n_31) 35 n_32) 71 f_33) 65 n_34) 72 f_35) 66 n_36) 33 n_39) 34 n_40) 35 n_41) 36 n_42) 37 n_43)) := hD
            replace hw : (r_38.toInt = 1 ∧ n_41.toInt = (n_32).toInt - 1) ∨ (r_38.toInt = 0 ∧ n_41 = n_32) := hw
            rcases hw with ⟨hca, hcb⟩ | ⟨hca, hcb⟩
            · skip
              refine lv_if_ne (tgt := 47) hx hb dX5_ofTwo_42 (by decide) (fun c_44 => ?_) (fun c_44 => ?_)
              · have kc_44 : r_38.toInt ≠ 0 := by have h9 := c_44; simp only [ge_iff_le, gt_iff_lt, x_lt, x_le, x_eq, ne_eq, Int32.not_lt, Int32.not_le] at h9; simp only [Int32.reduceToInt] at h9; omega
                refine lv_aload_n hx hb dX5_ofTwo_47 rfl (lv_at hl 0 rfl) ?_
                refine va_get (D := D) (ci := 4) (v := .ref (ad 60)) (C := RX5) (T := TX5) (N := 8) hx hb hts inX5 hown hK hP 0 prw_o0 rfl 1 (by decide) fl34 (fun _ h9 => h9) rfl dX5_ofTwo_48 ?_
                refine lv_iload_n hx hb dX5_ofTwo_51 rfl (lv_at hl 1 rfl) ?_
                refine lv_iconst (v := 0) hx hb dX5_ofTwo_52 (by decide) ?_
                have hPs : va_P D vwCl (pgw y ad (sI (sI (sI (sI (sI (sI (tI (sI (tI (sI (sI (sI (sI (sI (sI (sI (sI (sI (sI (tI (sI (tI (sI (sI (sI (sI (sI (sI (sI (sI (sI (sI (sI (sI σ 33 n_1) 34 n_2) 33 n_4) 34 n_5) 35 n_6) 36 n_7) 37 n_8) 36 n_11) 37 n_12) 33 n_13) 34 n_14) 35 n_15) 71 f_16) 65 n_17) 72 f_18) 66 n_19) 33 n_22) 34 n_23) 36 n_24) 37 n_25) 36 n_28) 37 n_29) 33 n_30) 34 n_31) 35 n_32) 71 f_33) 65 n_34) 72 f_35) 66 n_36) 33 n_39) 34 n_40) 35 n_41) 36 n_42) 37 n_43)) H := x_suP hP [2, 7, 8, 9, 10, 11, 12] rfl
                have hDs : va_D A (pgw y ad (sI (sI (sI (sI (sI (sI (tI (sI (tI (sI (sI (sI (sI (sI (sI (sI (sI (sI (sI (tI (sI (tI (sI (sI (sI (sI (sI (sI (sI (sI (sI (sI (sI (sI σ 33 n_1) 34 n_2) 33 n_4) 34 n_5) 35 n_6) 36 n_7) 37 n_8) 36 n_11) 37 n_12) 33 n_13) 34 n_14) 35 n_15) 71 f_16) 65 n_17) 72 f_18) 66 n_19) 33 n_22) 34 n_23) 36 n_24) 37 n_25) 36 n_28) 37 n_29) 33 n_30) 34 n_31) 35 n_32) 71 f_33) 65 n_34) 72 f_35) 66 n_36) 33 n_39) 34 n_40) 35 n_41) 36 n_42) 37 n_43)) := x_suD hD [2, 7, 8, 9, 10, 11, 12] rfl (by decide)
                refine x_callvS (b1 := fun (u : (Nat → Int32) × Int32) => (prw y ad (sI (tI (sI (sI (sI (sI (sI (sI (tI (sI (tI (sI (sI (sI (sI (sI (sI (sI (sI (sI (sI (tI (sI (tI (sI (sI (sI (sI (sI (sI (sI (sI (sI (sI (sI (sI σ 33 n_1) 34 n_2) 33 n_4) 34 n_5) 35 n_6) 36 n_7) 37 n_8) 36 n_11) 37 n_12) 33 n_13) 34 n_14) 35 n_15) 71 f_16) 65 n_17) 72 f_18) 66 n_19) 33 n_22) 34 n_23) 36 n_24) 37 n_25) 36 n_28) 37 n_29) 33 n_30) 34 n_31) 35 n_32) 71 f_33) 65 n_34) 72 f_35) 66 n_36) 33 n_39) 34 n_40) 35 n_41) 36 n_42) 37 n_43) 72 u.1) 66 u.2))) [2, 7, 8, 9, 10, 11, 12] (va_runV (As := [.int q, .int 0]) (rest := []) ⟨hx, hb, hml, hown, hts⟩ (w_emit l D y H.size ad (sI (sI (sI (sI (sI (sI (tI (sI (tI (sI (sI (sI (sI (sI (sI (sI (sI (sI (sI (tI (sI (tI (sI (sI (sI (sI (sI (sI (sI (sI (sI (sI (sI (sI σ 33 n_1) 34 n_2) 33 n_4) 34 n_5) 35 n_6) 36 n_7) 37 n_8) 36 n_11) 37 n_12) 33 n_13) 34 n_14) 35 n_15) 71 f_16) 65 n_17) 72 f_18) 66 n_19) 33 n_22) 34 n_23) 36 n_24) 37 n_25) 36 n_28) 37 n_29) 33 n_30) 34 n_31) 35 n_32) 71 f_33) 65 n_34) 72 f_35) 66 n_36) 33 n_39) 34 n_40) 35 n_41) 36 n_42) 37 n_43) q 0 (show 0 ≤ (n_36).toInt from by first | omega | decide) (show (n_36).toInt ≤ 700 from by first | omega | decide)) (cwV 2 hts (goodIn_cons gCLs_1) rfl rfl rfl (by decide +kernel) ⟨by (try dsimp only); omega, by (try dsimp only); omega⟩) (x_preV (q := (RX6, TX6, 13)) hK hPs hDs (ci := 5) (q0 := 0) rfl pgw_o0) rfl rfl hl.1 rfl (lv_room (Nat.le_of_ble_eq_true rfl)) dX5_ofTwo_53 ⟨Nat.le_of_ble_eq_true rfl, Nat.le_of_ble_eq_true rfl⟩) hP hD hS hA rfl (fun _ => rfl) (fun _ => rfl) (fun _ => rfl) (fun u H locs hw hP hD hS => ?_)
                obtain ⟨f_45, n_46⟩ := u
                try dsimp only at hw
                have hP : va_P D vwCl (prw y ad (sI (tI (sI (sI (sI (sI (sI (sI (tI (sI (tI (sI (sI (sI (sI (sI (sI (sI (sI (sI (sI (tI (sI (tI (sI (sI (sI (sI (sI (sI (sI (sI (sI (sI (sI (sI σ 33 n_1) 34 n_2) 33 n_4) 34 n_5) 35 n_6) 36 n_7) 37 n_8) 36 n_11) 37 n_12) 33 n_13) 34 n_14) 35 n_15) 71 f_16) 65 n_17) 72 f_18) 66 n_19) 33 n_22) 34 n_23) 36 n_24) 37 n_25) 36 n_28) 37 n_29) 33 n_30) 34 n_31) 35 n_32) 71 f_33) 65 n_34) 72 f_35) 66 n_36) 33 n_39) 34 n_40) 35 n_41) 36 n_42) 37 n_43) 72 f_45) 66 n_46)) H := hP
                have hD : va_D A (prw y ad (sI (tI (sI (sI (sI (sI (sI (sI (tI (sI (tI (sI (sI (sI (sI (sI (sI (sI (sI (sI (sI (tI (sI (tI (sI (sI (sI (sI (sI (sI (sI (sI (sI (sI (sI (sI σ 33 n_1) 34 n_2) 33 n_4) 34 n_5) 35 n_6) 36 n_7) 37 n_8) 36 n_11) 37 n_12) 33 n_13) 34 n_14) 35 n_15) 71 f_16) 65 n_17) 72 f_18) 66 n_19) 33 n_22) 34 n_23) 36 n_24) 37 n_25) 36 n_28) 37 n_29) 33 n_30) 34 n_31) 35 n_32) 71 f_33) 65 n_34) 72 f_35) 66 n_36) 33 n_39) 34 n_40) 35 n_41) 36 n_42) 37 n_43) 72 f_45) 66 n_46)) := hD
                replace hw : 0 ≤ n_46.toInt ∧ n_46.toInt ≤ 700 := hw
                refine lv_iconst (v := 1) hx hb dX5_ofTwo_56 (by decide) ?_
                have hP : va_P D vwCl (prw y ad (sI (tI (sI (tI (sI (sI (sI (sI (sI σ 36 n_42) 37 n_43) 33 n_39) 34 n_40) 35 n_41) 71 f_33) 65 n_34) 72 f_45) 66 n_46)) H := hP
                have hD : va_D A (prw y ad (sI (tI (sI (tI (sI (sI (sI (sI (sI σ 36 n_42) 37 n_43) 33 n_39) 34 n_40) 35 n_41) 71 f_33) 65 n_34) 72 f_45) 66 n_46)) := hD
                exact x_zretW (v := 1) (u := (n_42, n_43, n_39, n_40, n_41, f_33, n_34, f_45, n_46)) hx hb hr hQ rfl (by (try dsimp only); exact ⟨by omega, by omega, by omega, by omega, by omega, by omega, by first | decide | omega, by first | omega | exact fun h9 => absurd h9 (by decide)⟩) hP hD hK hS dX5_ofTwo_57 hlocks
              · have kc_44 : r_38.toInt = 0 := by have h9 := c_44; simp only [ge_iff_le, gt_iff_lt, x_lt, x_le, x_eq, ne_eq, Int32.not_lt, Int32.not_le] at h9; simp only [Int32.reduceToInt] at h9; omega
                exfalso
                omega
            · have hcc : n_41.toInt = n_32.toInt := by rw [hcb]
              refine lv_if_ne (tgt := 47) hx hb dX5_ofTwo_42 (by decide) (fun c_47 => ?_) (fun c_47 => ?_)
              · have kc_47 : r_38.toInt ≠ 0 := by have h9 := c_47; simp only [ge_iff_le, gt_iff_lt, x_lt, x_le, x_eq, ne_eq, Int32.not_lt, Int32.not_le] at h9; simp only [Int32.reduceToInt] at h9; omega
                exfalso
                omega
              · have kc_47 : r_38.toInt = 0 := by have h9 := c_47; simp only [ge_iff_le, gt_iff_lt, x_lt, x_le, x_eq, ne_eq, Int32.not_lt, Int32.not_le] at h9; simp only [Int32.reduceToInt] at h9; omega
                refine lv_iconst (v := 0) hx hb dX5_ofTwo_45 (by decide) ?_
                have hP : va_P D vwCl (prw y ad (sI (tI (sI (tI (sI (sI (sI (sI (sI σ 36 n_42) 37 n_43) 33 n_39) 34 n_40) 35 n_41) 71 f_33) 65 n_34) 72 f_35) 66 n_36)) H := hP
                have hD : va_D A (prw y ad (sI (tI (sI (tI (sI (sI (sI (sI (sI σ 36 n_42) 37 n_43) 33 n_39) 34 n_40) 35 n_41) 71 f_33) 65 n_34) 72 f_35) 66 n_36)) := hD
                exact x_zretW (v := 0) (u := (n_42, n_43, n_39, n_40, n_41, f_33, n_34, f_35, n_36)) hx hb hr hQ rfl (by (try dsimp only); exact ⟨by omega, by omega, by omega, by omega, by omega, by omega, by first | decide | omega, by first | omega | exact fun h9 => absurd h9 (by decide)⟩) hP hD hK hS dX5_ofTwo_46 hlocks
  · have hoc : n_6.toInt = (σ.1 35).toInt := by rw [hob]
    refine lv_if_eq (tgt := 45) hx hb dX5_ofTwo_10 (by decide) (fun c_48 => ?_) (fun c_48 => ?_)
    · have kc_48 : r_3.toInt = 0 := by have h9 := c_48; simp only [ge_iff_le, gt_iff_lt, x_lt, x_le, x_eq, ne_eq, Int32.not_lt, Int32.not_le] at h9; simp only [Int32.reduceToInt] at h9; omega
      refine lv_iconst (v := 0) hx hb dX5_ofTwo_45 (by decide) ?_
      have hP : va_P D vwCl (prw y ad (sI (tI (sI (tI (sI (sI (sI (sI (sI σ 36 n_7) 37 n_8) 33 n_4) 34 n_5) 35 n_6) 71 (σ.2.2.1 71)) 65 (σ.1 65)) 72 (σ.2.2.1 72)) 66 (σ.1 66))) H := hP
      have hD : va_D A (prw y ad (sI (tI (sI (tI (sI (sI (sI (sI (sI σ 36 n_7) 37 n_8) 33 n_4) 34 n_5) 35 n_6) 71 (σ.2.2.1 71)) 65 (σ.1 65)) 72 (σ.2.2.1 72)) 66 (σ.1 66))) := hD
      exact x_zretW (v := 0) (u := (n_7, n_8, n_4, n_5, n_6, (σ.2.2.1 71), (σ.1 65), (σ.2.2.1 72), (σ.1 66))) hx hb hr hQ rfl (by (try dsimp only); exact ⟨by omega, by omega, by omega, by omega, by omega, by omega, by first | decide | omega, by first | omega | exact fun h9 => absurd h9 (by decide)⟩) hP hD hK hS dX5_ofTwo_46 hlocks
    · have kc_48 : r_3.toInt ≠ 0 := by have h9 := c_48; simp only [ge_iff_le, gt_iff_lt, x_lt, x_le, x_eq, ne_eq, Int32.not_lt, Int32.not_le] at h9; simp only [Int32.reduceToInt] at h9; omega
      exfalso
      omega

set_option maxHeartbeats 4000000 in
set_option maxRecDepth 100000 in
theorem z_partR (l : Launch) (D : va_G) (y : Nat → ClassId) (sz : Nat) (ad : Nat → Nat) (σ : OS) (d : Nat) (ihs : ∀ e : Nat, d = e + 1 → C_sum e) (hdp : 8 - (σ.1 35).toInt ≤ (d : Int)) (hopen0 : 0 ≤ (σ.1 35).toInt) (hopen1 : (σ.1 35).toInt ≤ 8) (htcount0 : 0 ≤ (σ.1 45).toInt) (htcount1 : (σ.1 45).toInt ≤ 700) (hlength0 : 0 ≤ (σ.1 66).toInt) (hlength1 : (σ.1 66).toInt ≤ 700) (hnumbers0 : 0 ≤ (σ.1 65).toInt) (hnumbers1 : (σ.1 65).toInt ≤ 350) (hnames0 : 0 ≤ (σ.1 68).toInt) (hnames1 : (σ.1 68).toInt ≤ 24) : Met l yX5_part v_z_partR ({ frames := 5 * d + 18, cells := 0, slots := 0, locals := 150 * d + 540 } : Room) (va_Pc [.ref (ad 30)] (xPre D (xT y) (prw y ad σ) sz)) (va_Qi (fun (r : Int32) (u : Int32 × Int32 × Int32 × Int32 × Int32 × (Nat → Int32) × Int32 × (Nat → Int32) × Int32) => 0 ≤ u.2.2.2.2.1.toInt ∧ u.2.2.2.2.1.toInt ≤ 8 ∧ 0 ≤ u.2.2.2.2.2.2.2.2.toInt ∧ u.2.2.2.2.2.2.2.2.toInt ≤ 700 ∧ 0 ≤ u.2.2.2.2.2.2.1.toInt ∧ u.2.2.2.2.2.2.1.toInt ≤ 350 ∧ (r.toInt = 0 ∨ r.toInt = 1) ∧ (r.toInt = 1 → u.2.2.2.2.1.toInt = (σ.1 35).toInt)) (fun (u : Int32 × Int32 × Int32 × Int32 × Int32 × (Nat → Int32) × Int32 × (Nat → Int32) × Int32) => xB D (xT y) (va_A (prw y ad σ) sz) (prw y ad (sI (tI (sI (tI (sI (sI (sI (sI (sI σ 36 u.1) 37 u.2.1) 33 u.2.2.1) 34 u.2.2.2.1) 35 u.2.2.2.2.1) 71 u.2.2.2.2.2.1) 65 u.2.2.2.2.2.2.1) 72 u.2.2.2.2.2.2.2.1) 66 u.2.2.2.2.2.2.2.2))) (va_A (prw y ad σ) sz)) 0 0 (va_A (prw y ad σ) sz) := by
  refine x_meti (cc := cX5_part) (maxL := 1) (by decide) rfl (Nat.le_of_ble_eq_true rfl) ?_
  intro p e s m below meth c A H locs Q hx hb hml hown hts hr hlocks hmn hA hP hK hD hS ls hl hQ
  have hl : lv_has ls 1 [(0, .ref (ad 30))] := hl
  have fl45 := hts (.fieldLink RX5 45 "SlopeRunner$Parser" "kind" "I") (List.mem_of_getElem? (i := 6) rfl)
  have inX5 : ∀ w ∈ wsX50, w ∈ v_z_partR := (fun w h => List.mem_cons_of_mem _ (List.mem_append_right _ (List.mem_append_right _ (List.mem_append_right _ (List.mem_append_right _ (List.mem_append_right _ (List.mem_append_right _ (List.mem_append_right _ (List.mem_append_right _ (List.mem_append_right _ h))))))))))
  have kk_40 : (40 : Int32).toInt = 40 := rfl
  have kk_0 : (0 : Int32).toInt = 0 := rfl
  have kk_41 : (41 : Int32).toInt = 41 := rfl
  have kk_1 : (1 : Int32).toInt = 1 := rfl
  have kk_10 : (10 : Int32).toInt = 10 := rfl
  have kk_11 : (11 : Int32).toInt = 11 := rfl
  have kk_12 : (12 : Int32).toInt = 12 := rfl
  refine lv_aload_n hx hb dX5_part_0 rfl (lv_at hl 0 rfl) ?_
  refine va_get (D := D) (ci := 4) (v := .int (σ.1 34)) (C := RX5) (T := TX5) (N := 8) hx hb hts inX5 hown hK hP 0 prw_o0 rfl 3 (by decide) fl45 (fun _ h9 => h9) rfl dX5_part_1 ?_
  refine lv_topi (fun i_1 ei_1 => ?_)
  rcases (show i_1 = 40 ∨ i_1 = 260 ∨ i_1 = 261 ∨ i_1 = 273 ∨ i_1 = 274 ∨ i_1 = 275 ∨ (¬ i_1 = 40 ∧ ¬ i_1 = 260 ∧ ¬ i_1 = 261 ∧ ¬ i_1 = 273 ∧ ¬ i_1 = 274 ∧ ¬ i_1 = 275) by simp only [x_eq, Int32.reduceToInt]; omega) with rfl | rfl | rfl | rfl | rfl | rfl | ⟨g_2_0, g_2_1, g_2_2, g_2_3, g_2_4, g_2_5⟩
  · refine lv_lookup (tgt := 64) (off := 60) hx hb dX5_part_4 (by decide) (by decide) (by decide) ?_
    refine lv_aload_n hx hb dX5_part_64 rfl (lv_at hl 0 rfl) ?_
    refine lv_bipush (v := 40) hx hb dX5_part_65 (by decide) ?_
    refine x_calliW (va_runV (As := [.int 40]) (rest := []) ⟨hx, hb, hml, hown, hts⟩ (z_openWith l D y H.size ad σ 40 (show 0 ≤ ((σ.1 45)).toInt from by first | omega | decide) (show ((σ.1 45)).toInt ≤ 700 from by first | omega | decide) (show 0 ≤ ((σ.1 35)).toInt from by first | omega | decide) (show ((σ.1 35)).toInt ≤ 8 from by first | omega | decide)) (cwV 1 hts (goodIn_cons gCLs_2) rfl rfl rfl (by decide +kernel) ⟨by (try dsimp only); omega, by (try dsimp only); omega⟩) (x_preV (q := (RX5, TX5, 8)) hK hP hD (ci := 4) (q0 := 0) rfl prw_o0) rfl rfl hl.1 rfl (lv_room (Nat.le_of_ble_eq_true rfl)) dX5_part_67 ⟨Nat.le_of_ble_eq_true rfl, Nat.le_of_ble_eq_true rfl⟩) hP hD hS hA (fun r_3 u H locs hw hP hD hS => ?_)
    obtain ⟨n_4, n_5, n_6, n_7, n_8⟩ := u
    try dsimp only at hw
    have hP : va_P D vwCl (prw y ad (sI (sI (sI (sI (sI σ 33 n_4) 34 n_5) 35 n_6) 36 n_7) 37 n_8)) H := hP
    have hD : va_D A (prw y ad (sI (sI (sI (sI (sI σ 33 n_4) 34 n_5) 35 n_6) 36 n_7) 37 n_8)) := hD
    replace hw : (r_3.toInt = 1 ∧ n_6.toInt = ((σ.1 35)).toInt + 1 ∧ n_6.toInt ≤ 8) ∨ (r_3.toInt = 0 ∧ n_6 = (σ.1 35)) := hw
    rcases hw with ⟨hoa, hob, hoc⟩ | ⟨hoa, hob⟩
    · skip
      refine lv_if_eq (tgt := 93) hx hb dX5_part_70 (by decide) (fun c_9 => ?_) (fun c_9 => ?_)
      · have kc_9 : r_3.toInt = 0 := by have h9 := c_9; simp only [ge_iff_le, gt_iff_lt, x_lt, x_le, x_eq, ne_eq, Int32.not_lt, Int32.not_le] at h9; simp only [Int32.reduceToInt] at h9; omega
        exfalso
        omega
      · have kc_9 : r_3.toInt ≠ 0 := by have h9 := c_9; simp only [ge_iff_le, gt_iff_lt, x_lt, x_le, x_eq, ne_eq, Int32.not_lt, Int32.not_le] at h9; simp only [Int32.reduceToInt] at h9; omega
        refine lv_aload_n hx hb dX5_part_73 rfl (lv_at hl 0 rfl) ?_
        obtain ⟨e9, he9⟩ : ∃ e9, d = e9 + 1 := ⟨d - 1, by omega⟩
        refine x_calliW (va_runV (As := []) (rest := []) ⟨hx, hb, hml, hown, hts⟩ ((ihs e9 he9) l D y H.size ad (sI (sI (sI (sI (sI σ 33 n_4) 34 n_5) 35 n_6) 36 n_7) 37 n_8) (show 8 - (n_6).toInt ≤ (e9 : Int) from by first | omega | decide) (show 0 ≤ (n_6).toInt from by first | omega | decide) (show (n_6).toInt ≤ 8 from by first | omega | decide) (show 0 ≤ ((σ.1 45)).toInt from by first | omega | decide) (show ((σ.1 45)).toInt ≤ 700 from by first | omega | decide) (show 0 ≤ ((σ.1 66)).toInt from by first | omega | decide) (show ((σ.1 66)).toInt ≤ 700 from by first | omega | decide) (show 0 ≤ ((σ.1 65)).toInt from by first | omega | decide) (show ((σ.1 65)).toInt ≤ 350 from by first | omega | decide) (show 0 ≤ ((σ.1 68)).toInt from by first | omega | decide) (show ((σ.1 68)).toInt ≤ 24 from by first | omega | decide)) (cwV 0 hts (goodIn_cl hCLs (List.mem_of_getElem? (i := 11) rfl) (List.mem_of_getElem? (i := 12) rfl) (List.mem_of_getElem? (i := 13) rfl) (List.mem_of_getElem? (i := 3) rfl) (List.mem_of_getElem? (i := 14) rfl)) rfl rfl rfl (by decide +kernel) ⟨by (try dsimp only); omega, by (try dsimp only); omega⟩) (x_preV (q := (RX5, TX5, 8)) hK hP hD (ci := 4) (q0 := 0) rfl prw_o0) rfl rfl hl.1 rfl (lv_room (Nat.le_of_ble_eq_true rfl)) dX5_part_74 ⟨Nat.le_of_ble_eq_true rfl, Nat.le_of_ble_eq_true rfl⟩) hP hD hS hA (fun r_10 u H locs hw hP hD hS => ?_)
        obtain ⟨n_11, n_12, n_13, n_14, n_15, f_16, n_17, f_18, n_19⟩ := u
        try dsimp only at hw
        have hP : va_P D vwCl (prw y ad (sI (tI (sI (tI (sI (sI (sI (sI (sI (sI (sI (sI (sI (sI σ 33 n_4) 34 n_5) 35 n_6) 36 n_7) 37 n_8) 36 n_11) 37 n_12) 33 n_13) 34 n_14) 35 n_15) 71 f_16) 65 n_17) 72 f_18) 66 n_19)) H := hP
        have hD : va_D A (prw y ad (sI (tI (sI (tI (sI (sI (sI (sI (sI (sI (sI (sI (sI (sI σ 33 n_4) 34 n_5) 35 n_6) 36 n_7) 37 n_8) 36 n_11) 37 n_12) 33 n_13) 34 n_14) 35 n_15) 71 f_16) 65 n_17) 72 f_18) 66 n_19)) := hD
        replace hw : 0 ≤ n_15.toInt ∧ n_15.toInt ≤ 8 ∧ 0 ≤ n_19.toInt ∧ n_19.toInt ≤ 700 ∧ 0 ≤ n_17.toInt ∧ n_17.toInt ≤ 350 ∧ (r_10.toInt = 0 ∨ r_10.toInt = 1) ∧ (r_10.toInt = 1 → n_15.toInt = (n_6).toInt) := hw
        obtain ⟨ho1, hp1, hq1, hr1, hs1, ht1, hu1, hv1⟩ := hw
        have hw := hu1
        refine lv_if_eq (tgt := 93) hx hb dX5_part_77 (by decide) (fun c_20 => ?_) (fun c_20 => ?_)
        · have kc_20 : r_10.toInt = 0 := by have h9 := c_20; simp only [ge_iff_le, gt_iff_lt, x_lt, x_le, x_eq, ne_eq, Int32.not_lt, Int32.not_le] at h9; simp only [Int32.reduceToInt] at h9; omega
          refine lv_iconst (v := 0) hx hb dX5_part_93 (by decide) ?_
          have hP : va_P D vwCl (prw y ad (sI (tI (sI (tI (sI (sI (sI (sI (sI σ 36 n_11) 37 n_12) 33 n_13) 34 n_14) 35 n_15) 71 f_16) 65 n_17) 72 f_18) 66 n_19)) H := hP
          have hD : va_D A (prw y ad (sI (tI (sI (tI (sI (sI (sI (sI (sI σ 36 n_11) 37 n_12) 33 n_13) 34 n_14) 35 n_15) 71 f_16) 65 n_17) 72 f_18) 66 n_19)) := hD
          exact x_zretW (v := 0) (u := (n_11, n_12, n_13, n_14, n_15, f_16, n_17, f_18, n_19)) hx hb hr hQ rfl (by (try dsimp only); exact ⟨by omega, by omega, by omega, by omega, by omega, by omega, by first | decide | omega, by first | omega | exact fun h9 => absurd h9 (by decide)⟩) hP hD hK hS dX5_part_94 hlocks
        · have kc_20 : r_10.toInt ≠ 0 := by have h9 := c_20; simp only [ge_iff_le, gt_iff_lt, x_lt, x_le, x_eq, ne_eq, Int32.not_lt, Int32.not_le] at h9; simp only [Int32.reduceToInt] at h9; omega
          refine lv_aload_n hx hb dX5_part_80 rfl (lv_at hl 0 rfl) ?_
          refine lv_bipush (v := 41) hx hb dX5_part_81 (by decide) ?_
          refine x_calliW (va_runV (As := [.int 41]) (rest := []) ⟨hx, hb, hml, hown, hts⟩ (z_closeWith l D y H.size ad (sI (tI (sI (tI (sI (sI (sI (sI (sI (sI (sI (sI (sI (sI σ 33 n_4) 34 n_5) 35 n_6) 36 n_7) 37 n_8) 36 n_11) 37 n_12) 33 n_13) 34 n_14) 35 n_15) 71 f_16) 65 n_17) 72 f_18) 66 n_19) 41 (show 0 ≤ ((σ.1 45)).toInt from by first | omega | decide) (show ((σ.1 45)).toInt ≤ 700 from by first | omega | decide) (show 1 ≤ (n_15).toInt from by first | omega | decide) (show (n_15).toInt ≤ 8 from by first | omega | decide)) (cwV 1 hts (goodIn_cons gCLs_3) rfl rfl rfl (by decide +kernel) ⟨by (try dsimp only); omega, by (try dsimp only); omega⟩) (x_preV (q := (RX5, TX5, 8)) hK hP hD (ci := 4) (q0 := 0) rfl prw_o0) rfl rfl hl.1 rfl (lv_room (Nat.le_of_ble_eq_true rfl)) dX5_part_83 ⟨Nat.le_of_ble_eq_true rfl, Nat.le_of_ble_eq_true rfl⟩) hP hD hS hA (fun r_21 u H locs hw hP hD hS => ?_)
          obtain ⟨n_22, n_23, n_24, n_25, n_26⟩ := u
          try dsimp only at hw
          have hP : va_P D vwCl (prw y ad (sI (sI (sI (sI (sI (sI (tI (sI (tI (sI (sI (sI (sI (sI (sI (sI (sI (sI (sI σ 33 n_4) 34 n_5) 35 n_6) 36 n_7) 37 n_8) 36 n_11) 37 n_12) 33 n_13) 34 n_14) 35 n_15) 71 f_16) 65 n_17) 72 f_18) 66 n_19) 33 n_22) 34 n_23) 35 n_24) 36 n_25) 37 n_26)) H := hP
          have hD : va_D A (prw y ad (sI (sI (sI (sI (sI (sI (tI (sI (tI (sI (sI (sI (sI (sI (sI (sI (sI (sI (sI σ 33 n_4) 34 n_5) 35 n_6) 36 n_7) 37 n_8) 36 n_11) 37 n_12) 33 n_13) 34 n_14) 35 n_15) 71 f_16) 65 n_17) 72 f_18) 66 n_19) 33 n_22) 34 n_23) 35 n_24) 36 n_25) 37 n_26)) := hD
          replace hw : (r_21.toInt = 1 ∧ n_24.toInt = (n_15).toInt - 1) ∨ (r_21.toInt = 0 ∧ n_24 = n_15) := hw
          rcases hw with ⟨hca, hcb⟩ | ⟨hca, hcb⟩
          · skip
            refine lv_if_eq (tgt := 93) hx hb dX5_part_86 (by decide) (fun c_27 => ?_) (fun c_27 => ?_)
            · have kc_27 : r_21.toInt = 0 := by have h9 := c_27; simp only [ge_iff_le, gt_iff_lt, x_lt, x_le, x_eq, ne_eq, Int32.not_lt, Int32.not_le] at h9; simp only [Int32.reduceToInt] at h9; omega
              exfalso
              omega
            · have kc_27 : r_21.toInt ≠ 0 := by have h9 := c_27; simp only [ge_iff_le, gt_iff_lt, x_lt, x_le, x_eq, ne_eq, Int32.not_lt, Int32.not_le] at h9; simp only [Int32.reduceToInt] at h9; omega
              refine lv_iconst (v := 1) hx hb dX5_part_89 (by decide) ?_
              refine lv_goto (tgt := 94) hx hb dX5_part_90 (by decide) ?_
              have hP : va_P D vwCl (prw y ad (sI (tI (sI (tI (sI (sI (sI (sI (sI σ 36 n_25) 37 n_26) 33 n_22) 34 n_23) 35 n_24) 71 f_16) 65 n_17) 72 f_18) 66 n_19)) H := hP
              have hD : va_D A (prw y ad (sI (tI (sI (tI (sI (sI (sI (sI (sI σ 36 n_25) 37 n_26) 33 n_22) 34 n_23) 35 n_24) 71 f_16) 65 n_17) 72 f_18) 66 n_19)) := hD
              exact x_zretW (v := 1) (u := (n_25, n_26, n_22, n_23, n_24, f_16, n_17, f_18, n_19)) hx hb hr hQ rfl (by (try dsimp only); exact ⟨by omega, by omega, by omega, by omega, by omega, by omega, by first | decide | omega, by first | omega | exact fun h9 => absurd h9 (by decide)⟩) hP hD hK hS dX5_part_94 hlocks
          · have hcc : n_24.toInt = n_15.toInt := by rw [hcb]
            refine lv_if_eq (tgt := 93) hx hb dX5_part_86 (by decide) (fun c_28 => ?_) (fun c_28 => ?_)
            · have kc_28 : r_21.toInt = 0 := by have h9 := c_28; simp only [ge_iff_le, gt_iff_lt, x_lt, x_le, x_eq, ne_eq, Int32.not_lt, Int32.not_le] at h9; simp only [Int32.reduceToInt] at h9; omega
              refine lv_iconst (v := 0) hx hb dX5_part_93 (by decide) ?_
              have hP : va_P D vwCl (prw y ad (sI (tI (sI (tI (sI (sI (sI (sI (sI σ 36 n_25) 37 n_26) 33 n_22) 34 n_23) 35 n_24) 71 f_16) 65 n_17) 72 f_18) 66 n_19)) H := hP
              have hD : va_D A (prw y ad (sI (tI (sI (tI (sI (sI (sI (sI (sI σ 36 n_25) 37 n_26) 33 n_22) 34 n_23) 35 n_24) 71 f_16) 65 n_17) 72 f_18) 66 n_19)) := hD
              exact x_zretW (v := 0) (u := (n_25, n_26, n_22, n_23, n_24, f_16, n_17, f_18, n_19)) hx hb hr hQ rfl (by (try dsimp only); exact ⟨by omega, by omega, by omega, by omega, by omega, by omega, by first | decide | omega, by first | omega | exact fun h9 => absurd h9 (by decide)⟩) hP hD hK hS dX5_part_94 hlocks
            · have kc_28 : r_21.toInt ≠ 0 := by have h9 := c_28; simp only [ge_iff_le, gt_iff_lt, x_lt, x_le, x_eq, ne_eq, Int32.not_lt, Int32.not_le] at h9; simp only [Int32.reduceToInt] at h9; omega
              exfalso
              omega
    · have hoc : n_6.toInt = (σ.1 35).toInt := by rw [hob]
      refine lv_if_eq (tgt := 93) hx hb dX5_part_70 (by decide) (fun c_29 => ?_) (fun c_29 => ?_)
      · have kc_29 : r_3.toInt = 0 := by have h9 := c_29; simp only [ge_iff_le, gt_iff_lt, x_lt, x_le, x_eq, ne_eq, Int32.not_lt, Int32.not_le] at h9; simp only [Int32.reduceToInt] at h9; omega
        refine lv_iconst (v := 0) hx hb dX5_part_93 (by decide) ?_
        have hP : va_P D vwCl (prw y ad (sI (tI (sI (tI (sI (sI (sI (sI (sI σ 36 n_7) 37 n_8) 33 n_4) 34 n_5) 35 n_6) 71 (σ.2.2.1 71)) 65 (σ.1 65)) 72 (σ.2.2.1 72)) 66 (σ.1 66))) H := hP
        have hD : va_D A (prw y ad (sI (tI (sI (tI (sI (sI (sI (sI (sI σ 36 n_7) 37 n_8) 33 n_4) 34 n_5) 35 n_6) 71 (σ.2.2.1 71)) 65 (σ.1 65)) 72 (σ.2.2.1 72)) 66 (σ.1 66))) := hD
        exact x_zretW (v := 0) (u := (n_7, n_8, n_4, n_5, n_6, (σ.2.2.1 71), (σ.1 65), (σ.2.2.1 72), (σ.1 66))) hx hb hr hQ rfl (by (try dsimp only); exact ⟨by omega, by omega, by omega, by omega, by omega, by omega, by first | decide | omega, by first | omega | exact fun h9 => absurd h9 (by decide)⟩) hP hD hK hS dX5_part_94 hlocks
      · have kc_29 : r_3.toInt ≠ 0 := by have h9 := c_29; simp only [ge_iff_le, gt_iff_lt, x_lt, x_le, x_eq, ne_eq, Int32.not_lt, Int32.not_le] at h9; simp only [Int32.reduceToInt] at h9; omega
        exfalso
        omega
  · refine lv_lookup (tgt := 95) (off := 91) hx hb dX5_part_4 (by decide) (by decide) (by decide) ?_
    refine lv_aload_n hx hb dX5_part_95 rfl (lv_at hl 0 rfl) ?_
    refine x_calliW (va_runV (As := []) (rest := []) ⟨hx, hb, hml, hown, hts⟩ (z_written l D y H.size ad σ (show 0 ≤ ((σ.1 45)).toInt from by first | omega | decide) (show ((σ.1 45)).toInt ≤ 700 from by first | omega | decide) (show 0 ≤ ((σ.1 66)).toInt from by first | omega | decide) (show ((σ.1 66)).toInt ≤ 700 from by first | omega | decide) (show 0 ≤ ((σ.1 65)).toInt from by first | omega | decide) (show ((σ.1 65)).toInt ≤ 350 from by first | omega | decide)) (cwV 0 hts (goodIn_cons gCLs_4) rfl rfl rfl (by decide +kernel) ⟨by (try dsimp only); omega, by (try dsimp only); omega⟩) (x_preV (q := (RX5, TX5, 8)) hK hP hD (ci := 4) (q0 := 0) rfl prw_o0) rfl rfl hl.1 rfl (lv_room (Nat.le_of_ble_eq_true rfl)) dX5_part_96 ⟨Nat.le_of_ble_eq_true rfl, Nat.le_of_ble_eq_true rfl⟩) hP hD hS hA (fun r_30 u H locs hw hP hD hS => ?_)
    obtain ⟨n_31, n_32, n_33, n_34, f_35, n_36, f_37, n_38⟩ := u
    try dsimp only at hw
    have hP : va_P D vwCl (prw y ad (sI (tI (sI (tI (sI (sI (sI (sI σ 36 n_31) 37 n_32) 33 n_33) 34 n_34) 71 f_35) 65 n_36) 72 f_37) 66 n_38)) H := hP
    have hD : va_D A (prw y ad (sI (tI (sI (tI (sI (sI (sI (sI σ 36 n_31) 37 n_32) 33 n_33) 34 n_34) 71 f_35) 65 n_36) 72 f_37) 66 n_38)) := hD
    replace hw : 0 ≤ n_38.toInt ∧ n_38.toInt ≤ 700 ∧ 0 ≤ n_36.toInt ∧ n_36.toInt ≤ 350 ∧ (r_30.toInt = 0 ∨ r_30.toInt = 1) := hw
    have hP : va_P D vwCl (prw y ad (sI (tI (sI (tI (sI (sI (sI (sI (sI σ 36 n_31) 37 n_32) 33 n_33) 34 n_34) 35 (σ.1 35)) 71 f_35) 65 n_36) 72 f_37) 66 n_38)) H := hP
    have hD : va_D A (prw y ad (sI (tI (sI (tI (sI (sI (sI (sI (sI σ 36 n_31) 37 n_32) 33 n_33) 34 n_34) 35 (σ.1 35)) 71 f_35) 65 n_36) 72 f_37) 66 n_38)) := hD
    exact x_zretW (v := r_30) (u := (n_31, n_32, n_33, n_34, (σ.1 35), f_35, n_36, f_37, n_38)) hx hb hr hQ (x_01 (by omega)) (by (try dsimp only); exact ⟨by omega, by omega, by omega, by omega, by omega, by omega, by first | decide | omega, by first | omega | exact fun h9 => absurd h9 (by decide)⟩) hP hD hK hS dX5_part_99 hlocks
  · refine lv_lookup (tgt := 95) (off := 91) hx hb dX5_part_4 (by decide) (by decide) (by decide) ?_
    refine lv_aload_n hx hb dX5_part_95 rfl (lv_at hl 0 rfl) ?_
    refine x_calliW (va_runV (As := []) (rest := []) ⟨hx, hb, hml, hown, hts⟩ (z_written l D y H.size ad σ (show 0 ≤ ((σ.1 45)).toInt from by first | omega | decide) (show ((σ.1 45)).toInt ≤ 700 from by first | omega | decide) (show 0 ≤ ((σ.1 66)).toInt from by first | omega | decide) (show ((σ.1 66)).toInt ≤ 700 from by first | omega | decide) (show 0 ≤ ((σ.1 65)).toInt from by first | omega | decide) (show ((σ.1 65)).toInt ≤ 350 from by first | omega | decide)) (cwV 0 hts (goodIn_cons gCLs_4) rfl rfl rfl (by decide +kernel) ⟨by (try dsimp only); omega, by (try dsimp only); omega⟩) (x_preV (q := (RX5, TX5, 8)) hK hP hD (ci := 4) (q0 := 0) rfl prw_o0) rfl rfl hl.1 rfl (lv_room (Nat.le_of_ble_eq_true rfl)) dX5_part_96 ⟨Nat.le_of_ble_eq_true rfl, Nat.le_of_ble_eq_true rfl⟩) hP hD hS hA (fun r_39 u H locs hw hP hD hS => ?_)
    obtain ⟨n_40, n_41, n_42, n_43, f_44, n_45, f_46, n_47⟩ := u
    try dsimp only at hw
    have hP : va_P D vwCl (prw y ad (sI (tI (sI (tI (sI (sI (sI (sI σ 36 n_40) 37 n_41) 33 n_42) 34 n_43) 71 f_44) 65 n_45) 72 f_46) 66 n_47)) H := hP
    have hD : va_D A (prw y ad (sI (tI (sI (tI (sI (sI (sI (sI σ 36 n_40) 37 n_41) 33 n_42) 34 n_43) 71 f_44) 65 n_45) 72 f_46) 66 n_47)) := hD
    replace hw : 0 ≤ n_47.toInt ∧ n_47.toInt ≤ 700 ∧ 0 ≤ n_45.toInt ∧ n_45.toInt ≤ 350 ∧ (r_39.toInt = 0 ∨ r_39.toInt = 1) := hw
    have hP : va_P D vwCl (prw y ad (sI (tI (sI (tI (sI (sI (sI (sI (sI σ 36 n_40) 37 n_41) 33 n_42) 34 n_43) 35 (σ.1 35)) 71 f_44) 65 n_45) 72 f_46) 66 n_47)) H := hP
    have hD : va_D A (prw y ad (sI (tI (sI (tI (sI (sI (sI (sI (sI σ 36 n_40) 37 n_41) 33 n_42) 34 n_43) 35 (σ.1 35)) 71 f_44) 65 n_45) 72 f_46) 66 n_47)) := hD
    exact x_zretW (v := r_39) (u := (n_40, n_41, n_42, n_43, (σ.1 35), f_44, n_45, f_46, n_47)) hx hb hr hQ (x_01 (by omega)) (by (try dsimp only); exact ⟨by omega, by omega, by omega, by omega, by omega, by omega, by first | decide | omega, by first | omega | exact fun h9 => absurd h9 (by decide)⟩) hP hD hK hS dX5_part_99 hlocks
  · refine lv_lookup (tgt := 100) (off := 96) hx hb dX5_part_4 (by decide) (by decide) (by decide) ?_
    refine lv_aload_n hx hb dX5_part_100 rfl (lv_at hl 0 rfl) ?_
    refine lv_bipush (v := 10) hx hb dX5_part_101 (by decide) ?_
    refine x_calliW (va_runV (As := [.int 10]) (rest := []) ⟨hx, hb, hml, hown, hts⟩ (z_ofOneR l D y H.size ad σ d ihs 10 (show 8 - ((σ.1 35)).toInt ≤ (d : Int) from by first | omega | decide) (show 0 ≤ ((σ.1 35)).toInt from by first | omega | decide) (show ((σ.1 35)).toInt ≤ 8 from by first | omega | decide) (show 0 ≤ ((σ.1 45)).toInt from by first | omega | decide) (show ((σ.1 45)).toInt ≤ 700 from by first | omega | decide) (show 0 ≤ ((σ.1 66)).toInt from by first | omega | decide) (show ((σ.1 66)).toInt ≤ 700 from by first | omega | decide) (show 0 ≤ ((σ.1 65)).toInt from by first | omega | decide) (show ((σ.1 65)).toInt ≤ 350 from by first | omega | decide) (show 0 ≤ ((σ.1 68)).toInt from by first | omega | decide) (show ((σ.1 68)).toInt ≤ 24 from by first | omega | decide)) (cwV 1 hts (goodIn_cl hCLs (List.mem_of_getElem? (i := 15) rfl) (List.mem_of_getElem? (i := 16) rfl) (List.mem_of_getElem? (i := 17) rfl) (List.mem_of_getElem? (i := 3) rfl) (List.mem_of_getElem? (i := 18) rfl)) rfl rfl rfl (by decide +kernel) ⟨by (try dsimp only); omega, by (try dsimp only); omega⟩) (x_preV (q := (RX5, TX5, 8)) hK hP hD (ci := 4) (q0 := 0) rfl prw_o0) rfl rfl hl.1 rfl (lv_room (Nat.le_of_ble_eq_true rfl)) dX5_part_103 ⟨Nat.le_of_ble_eq_true rfl, Nat.le_of_ble_eq_true rfl⟩) hP hD hS hA (fun r_48 u H locs hw hP hD hS => ?_)
    obtain ⟨n_49, n_50, n_51, n_52, n_53, f_54, n_55, f_56, n_57⟩ := u
    try dsimp only at hw
    have hP : va_P D vwCl (prw y ad (sI (tI (sI (tI (sI (sI (sI (sI (sI σ 36 n_49) 37 n_50) 33 n_51) 34 n_52) 35 n_53) 71 f_54) 65 n_55) 72 f_56) 66 n_57)) H := hP
    have hD : va_D A (prw y ad (sI (tI (sI (tI (sI (sI (sI (sI (sI σ 36 n_49) 37 n_50) 33 n_51) 34 n_52) 35 n_53) 71 f_54) 65 n_55) 72 f_56) 66 n_57)) := hD
    replace hw : 0 ≤ n_53.toInt ∧ n_53.toInt ≤ 8 ∧ 0 ≤ n_57.toInt ∧ n_57.toInt ≤ 700 ∧ 0 ≤ n_55.toInt ∧ n_55.toInt ≤ 350 ∧ (r_48.toInt = 0 ∨ r_48.toInt = 1) ∧ (r_48.toInt = 1 → n_53.toInt = ((σ.1 35)).toInt) := hw
    obtain ⟨ho2, hp2, hq2, hr2, hs2, ht2, hu2, hv2⟩ := hw
    have hw := hu2
    exact x_zretW (v := r_48) (u := (n_49, n_50, n_51, n_52, n_53, f_54, n_55, f_56, n_57)) hx hb hr hQ (x_01 (by omega)) (by (try dsimp only); exact ⟨by omega, by omega, by omega, by omega, by omega, by omega, by first | decide | omega, by first | omega | exact fun h9 => absurd h9 (by decide)⟩) hP hD hK hS dX5_part_106 hlocks
  · refine lv_lookup (tgt := 107) (off := 103) hx hb dX5_part_4 (by decide) (by decide) (by decide) ?_
    refine lv_aload_n hx hb dX5_part_107 rfl (lv_at hl 0 rfl) ?_
    refine lv_bipush (v := 11) hx hb dX5_part_108 (by decide) ?_
    refine x_calliW (va_runV (As := [.int 11]) (rest := []) ⟨hx, hb, hml, hown, hts⟩ (z_ofTwoR l D y H.size ad σ d ihs 11 (show 8 - ((σ.1 35)).toInt ≤ (d : Int) from by first | omega | decide) (show 0 ≤ ((σ.1 35)).toInt from by first | omega | decide) (show ((σ.1 35)).toInt ≤ 8 from by first | omega | decide) (show 0 ≤ ((σ.1 45)).toInt from by first | omega | decide) (show ((σ.1 45)).toInt ≤ 700 from by first | omega | decide) (show 0 ≤ ((σ.1 66)).toInt from by first | omega | decide) (show ((σ.1 66)).toInt ≤ 700 from by first | omega | decide) (show 0 ≤ ((σ.1 65)).toInt from by first | omega | decide) (show ((σ.1 65)).toInt ≤ 350 from by first | omega | decide) (show 0 ≤ ((σ.1 68)).toInt from by first | omega | decide) (show ((σ.1 68)).toInt ≤ 24 from by first | omega | decide)) (cwV 1 hts (goodIn_cl hCLs (List.mem_of_getElem? (i := 19) rfl) (List.mem_of_getElem? (i := 20) rfl) (List.mem_of_getElem? (i := 21) rfl) (List.mem_of_getElem? (i := 3) rfl) (List.mem_of_getElem? (i := 22) rfl)) rfl rfl rfl (by decide +kernel) ⟨by (try dsimp only); omega, by (try dsimp only); omega⟩) (x_preV (q := (RX5, TX5, 8)) hK hP hD (ci := 4) (q0 := 0) rfl prw_o0) rfl rfl hl.1 rfl (lv_room (Nat.le_of_ble_eq_true rfl)) dX5_part_110 ⟨Nat.le_of_ble_eq_true rfl, Nat.le_of_ble_eq_true rfl⟩) hP hD hS hA (fun r_58 u H locs hw hP hD hS => ?_)
    obtain ⟨n_59, n_60, n_61, n_62, n_63, f_64, n_65, f_66, n_67⟩ := u
    try dsimp only at hw
    have hP : va_P D vwCl (prw y ad (sI (tI (sI (tI (sI (sI (sI (sI (sI σ 36 n_59) 37 n_60) 33 n_61) 34 n_62) 35 n_63) 71 f_64) 65 n_65) 72 f_66) 66 n_67)) H := hP
    have hD : va_D A (prw y ad (sI (tI (sI (tI (sI (sI (sI (sI (sI σ 36 n_59) 37 n_60) 33 n_61) 34 n_62) 35 n_63) 71 f_64) 65 n_65) 72 f_66) 66 n_67)) := hD
    replace hw : 0 ≤ n_63.toInt ∧ n_63.toInt ≤ 8 ∧ 0 ≤ n_67.toInt ∧ n_67.toInt ≤ 700 ∧ 0 ≤ n_65.toInt ∧ n_65.toInt ≤ 350 ∧ (r_58.toInt = 0 ∨ r_58.toInt = 1) ∧ (r_58.toInt = 1 → n_63.toInt = ((σ.1 35)).toInt) := hw
    obtain ⟨ho3, hp3, hq3, hr3, hs3, ht3, hu3, hv3⟩ := hw
    have hw := hu3
    exact x_zretW (v := r_58) (u := (n_59, n_60, n_61, n_62, n_63, f_64, n_65, f_66, n_67)) hx hb hr hQ (x_01 (by omega)) (by (try dsimp only); exact ⟨by omega, by omega, by omega, by omega, by omega, by omega, by first | decide | omega, by first | omega | exact fun h9 => absurd h9 (by decide)⟩) hP hD hK hS dX5_part_113 hlocks
  · refine lv_lookup (tgt := 114) (off := 110) hx hb dX5_part_4 (by decide) (by decide) (by decide) ?_
    refine lv_aload_n hx hb dX5_part_114 rfl (lv_at hl 0 rfl) ?_
    refine lv_bipush (v := 12) hx hb dX5_part_115 (by decide) ?_
    refine x_calliW (va_runV (As := [.int 12]) (rest := []) ⟨hx, hb, hml, hown, hts⟩ (z_ofTwoR l D y H.size ad σ d ihs 12 (show 8 - ((σ.1 35)).toInt ≤ (d : Int) from by first | omega | decide) (show 0 ≤ ((σ.1 35)).toInt from by first | omega | decide) (show ((σ.1 35)).toInt ≤ 8 from by first | omega | decide) (show 0 ≤ ((σ.1 45)).toInt from by first | omega | decide) (show ((σ.1 45)).toInt ≤ 700 from by first | omega | decide) (show 0 ≤ ((σ.1 66)).toInt from by first | omega | decide) (show ((σ.1 66)).toInt ≤ 700 from by first | omega | decide) (show 0 ≤ ((σ.1 65)).toInt from by first | omega | decide) (show ((σ.1 65)).toInt ≤ 350 from by first | omega | decide) (show 0 ≤ ((σ.1 68)).toInt from by first | omega | decide) (show ((σ.1 68)).toInt ≤ 24 from by first | omega | decide)) (cwV 1 hts (goodIn_cl hCLs (List.mem_of_getElem? (i := 19) rfl) (List.mem_of_getElem? (i := 20) rfl) (List.mem_of_getElem? (i := 21) rfl) (List.mem_of_getElem? (i := 3) rfl) (List.mem_of_getElem? (i := 22) rfl)) rfl rfl rfl (by decide +kernel) ⟨by (try dsimp only); omega, by (try dsimp only); omega⟩) (x_preV (q := (RX5, TX5, 8)) hK hP hD (ci := 4) (q0 := 0) rfl prw_o0) rfl rfl hl.1 rfl (lv_room (Nat.le_of_ble_eq_true rfl)) dX5_part_117 ⟨Nat.le_of_ble_eq_true rfl, Nat.le_of_ble_eq_true rfl⟩) hP hD hS hA (fun r_68 u H locs hw hP hD hS => ?_)
    obtain ⟨n_69, n_70, n_71, n_72, n_73, f_74, n_75, f_76, n_77⟩ := u
    try dsimp only at hw
    have hP : va_P D vwCl (prw y ad (sI (tI (sI (tI (sI (sI (sI (sI (sI σ 36 n_69) 37 n_70) 33 n_71) 34 n_72) 35 n_73) 71 f_74) 65 n_75) 72 f_76) 66 n_77)) H := hP
    have hD : va_D A (prw y ad (sI (tI (sI (tI (sI (sI (sI (sI (sI σ 36 n_69) 37 n_70) 33 n_71) 34 n_72) 35 n_73) 71 f_74) 65 n_75) 72 f_76) 66 n_77)) := hD
    replace hw : 0 ≤ n_73.toInt ∧ n_73.toInt ≤ 8 ∧ 0 ≤ n_77.toInt ∧ n_77.toInt ≤ 700 ∧ 0 ≤ n_75.toInt ∧ n_75.toInt ≤ 350 ∧ (r_68.toInt = 0 ∨ r_68.toInt = 1) ∧ (r_68.toInt = 1 → n_73.toInt = ((σ.1 35)).toInt) := hw
    obtain ⟨ho4, hp4, hq4, hr4, hs4, ht4, hu4, hv4⟩ := hw
    have hw := hu4
    exact x_zretW (v := r_68) (u := (n_69, n_70, n_71, n_72, n_73, f_74, n_75, f_76, n_77)) hx hb hr hQ (x_01 (by omega)) (by (try dsimp only); exact ⟨by omega, by omega, by omega, by omega, by omega, by omega, by first | decide | omega, by first | omega | exact fun h9 => absurd h9 (by decide)⟩) hP hD hK hS dX5_part_120 hlocks
  · refine lv_lookup (tgt := 121) (off := 117) hx hb dX5_part_4 (by decide) ((lv_osw g_2_0 rfl).trans ((lv_osw g_2_1 rfl).trans ((lv_osw g_2_2 rfl).trans ((lv_osw g_2_3 rfl).trans ((lv_osw g_2_4 rfl).trans ((lv_osw g_2_5 rfl).trans rfl)))))) (by decide) ?_
    refine lv_aload_n hx hb dX5_part_121 rfl (lv_at hl 0 rfl) ?_
    refine x_calliW (va_runV (As := []) (rest := []) ⟨hx, hb, hml, hown, hts⟩ (z_readingR l D y H.size ad σ d ihs (show 8 - ((σ.1 35)).toInt ≤ (d : Int) from by first | omega | decide) (show 0 ≤ ((σ.1 35)).toInt from by first | omega | decide) (show ((σ.1 35)).toInt ≤ 8 from by first | omega | decide) (show 0 ≤ ((σ.1 45)).toInt from by first | omega | decide) (show ((σ.1 45)).toInt ≤ 700 from by first | omega | decide) (show 0 ≤ ((σ.1 66)).toInt from by first | omega | decide) (show ((σ.1 66)).toInt ≤ 700 from by first | omega | decide) (show 0 ≤ ((σ.1 65)).toInt from by first | omega | decide) (show ((σ.1 65)).toInt ≤ 350 from by first | omega | decide) (show 0 ≤ ((σ.1 68)).toInt from by first | omega | decide) (show ((σ.1 68)).toInt ≤ 24 from by first | omega | decide)) (cwV 0 hts (goodIn_cl hCLs (List.mem_of_getElem? (i := 23) rfl) (List.mem_of_getElem? (i := 24) rfl) (List.mem_of_getElem? (i := 25) rfl) (List.mem_of_getElem? (i := 3) rfl) (List.mem_of_getElem? (i := 26) rfl)) rfl rfl rfl (by decide +kernel) ⟨by (try dsimp only); omega, by (try dsimp only); omega⟩) (x_preV (q := (RX5, TX5, 8)) hK hP hD (ci := 4) (q0 := 0) rfl prw_o0) rfl rfl hl.1 rfl (lv_room (Nat.le_of_ble_eq_true rfl)) dX5_part_122 ⟨Nat.le_of_ble_eq_true rfl, Nat.le_of_ble_eq_true rfl⟩) hP hD hS hA (fun r_78 u H locs hw hP hD hS => ?_)
    obtain ⟨n_79, n_80, n_81, n_82, n_83, f_84, n_85, f_86, n_87⟩ := u
    try dsimp only at hw
    have hP : va_P D vwCl (prw y ad (sI (tI (sI (tI (sI (sI (sI (sI (sI σ 36 n_79) 37 n_80) 33 n_81) 34 n_82) 35 n_83) 71 f_84) 65 n_85) 72 f_86) 66 n_87)) H := hP
    have hD : va_D A (prw y ad (sI (tI (sI (tI (sI (sI (sI (sI (sI σ 36 n_79) 37 n_80) 33 n_81) 34 n_82) 35 n_83) 71 f_84) 65 n_85) 72 f_86) 66 n_87)) := hD
    replace hw : 0 ≤ n_83.toInt ∧ n_83.toInt ≤ 8 ∧ 0 ≤ n_87.toInt ∧ n_87.toInt ≤ 700 ∧ 0 ≤ n_85.toInt ∧ n_85.toInt ≤ 350 ∧ (r_78.toInt = 0 ∨ r_78.toInt = 1) ∧ (r_78.toInt = 1 → n_83.toInt = ((σ.1 35)).toInt) := hw
    obtain ⟨ho5, hp5, hq5, hr5, hs5, ht5, hu5, hv5⟩ := hw
    have hw := hu5
    exact x_zretW (v := r_78) (u := (n_79, n_80, n_81, n_82, n_83, f_84, n_85, f_86, n_87)) hx hb hr hQ (x_01 (by omega)) (by (try dsimp only); exact ⟨by omega, by omega, by omega, by omega, by omega, by omega, by first | decide | omega, by first | omega | exact fun h9 => absurd h9 (by decide)⟩) hP hD hK hS dX5_part_125 hlocks

set_option maxHeartbeats 4000000 in
set_option maxRecDepth 100000 in
theorem z_productR (l : Launch) (D : va_G) (y : Nat → ClassId) (sz : Nat) (ad : Nat → Nat) (σ : OS) (d : Nat) (ihs : ∀ e : Nat, d = e + 1 → C_sum e) (hdp : 8 - (σ.1 35).toInt ≤ (d : Int)) (hopen0 : 0 ≤ (σ.1 35).toInt) (hopen1 : (σ.1 35).toInt ≤ 8) (htcount0 : 0 ≤ (σ.1 45).toInt) (htcount1 : (σ.1 45).toInt ≤ 700) (hlength0 : 0 ≤ (σ.1 66).toInt) (hlength1 : (σ.1 66).toInt ≤ 700) (hnumbers0 : 0 ≤ (σ.1 65).toInt) (hnumbers1 : (σ.1 65).toInt ≤ 350) (hnames0 : 0 ≤ (σ.1 68).toInt) (hnames1 : (σ.1 68).toInt ≤ 24) : Met l yX5_product v_z_productR ({ frames := 5 * d + 19, cells := 0, slots := 0, locals := 150 * d + 570 } : Room) (va_Pc [.ref (ad 30)] (xPre D (xT y) (prw y ad σ) sz)) (va_Qi (fun (r : Int32) (u : Int32 × Int32 × Int32 × Int32 × Int32 × (Nat → Int32) × Int32 × (Nat → Int32) × Int32) => 0 ≤ u.2.2.2.2.1.toInt ∧ u.2.2.2.2.1.toInt ≤ 8 ∧ 0 ≤ u.2.2.2.2.2.2.2.2.toInt ∧ u.2.2.2.2.2.2.2.2.toInt ≤ 700 ∧ 0 ≤ u.2.2.2.2.2.2.1.toInt ∧ u.2.2.2.2.2.2.1.toInt ≤ 350 ∧ (r.toInt = 0 ∨ r.toInt = 1) ∧ (r.toInt = 1 → u.2.2.2.2.1.toInt = (σ.1 35).toInt)) (fun (u : Int32 × Int32 × Int32 × Int32 × Int32 × (Nat → Int32) × Int32 × (Nat → Int32) × Int32) => xB D (xT y) (va_A (prw y ad σ) sz) (prw y ad (sI (tI (sI (tI (sI (sI (sI (sI (sI σ 36 u.1) 37 u.2.1) 33 u.2.2.1) 34 u.2.2.2.1) 35 u.2.2.2.2.1) 71 u.2.2.2.2.2.1) 65 u.2.2.2.2.2.2.1) 72 u.2.2.2.2.2.2.2.1) 66 u.2.2.2.2.2.2.2.2))) (va_A (prw y ad σ) sz)) 0 0 (va_A (prw y ad σ) sz) := by
  refine x_meti (cc := cX5_product) (maxL := 3) (by decide) rfl (Nat.le_of_ble_eq_true rfl) ?_
  intro p e s m below meth c A H locs Q hx hb hml hown hts hr hlocks hmn hA hP hK hD hS ls hl hQ
  have hl : lv_has ls 3 [(0, .ref (ad 30))] := hl
  have kk_0 : (0 : Int32).toInt = 0 := rfl
  have kk_700 : (700 : Int32).toInt = 700 := rfl
  have kk_1 : (1 : Int32).toInt = 1 := rfl
  have fl45 := hts (.fieldLink RX5 45 "SlopeRunner$Parser" "kind" "I") (List.mem_of_getElem? (i := 6) rfl)
  have inX5 : ∀ w ∈ wsX50, w ∈ v_z_productR := (fun w h => List.mem_cons_of_mem _ (List.mem_append_right _ (List.mem_append_right _ (List.mem_append_right _ (List.mem_append_right _ (List.mem_append_right _ (List.mem_append_right _ (List.mem_append_right _ (List.mem_append_right _ (List.mem_append_right _ h))))))))))
  have kk_42 : (42 : Int32).toInt = 42 := rfl
  have fl34 := hts (.fieldLink RX5 34 "SlopeRunner$Parser" "into" "LSlopeRunner$Program;") (List.mem_of_getElem? (i := 7) rfl)
  have kk_9 : (9 : Int32).toInt = 9 := rfl
  have kk_8 : (8 : Int32).toInt = 8 := rfl
  have kk_47 : (47 : Int32).toInt = 47 := rfl
  refine lv_aload_n hx hb dX5_product_0 rfl (lv_at hl 0 rfl) ?_
  refine x_calliW (va_runV (As := []) (rest := []) ⟨hx, hb, hml, hown, hts⟩ (z_partR l D y H.size ad σ d ihs (show 8 - ((σ.1 35)).toInt ≤ (d : Int) from by first | omega | decide) (show 0 ≤ ((σ.1 35)).toInt from by first | omega | decide) (show ((σ.1 35)).toInt ≤ 8 from by first | omega | decide) (show 0 ≤ ((σ.1 45)).toInt from by first | omega | decide) (show ((σ.1 45)).toInt ≤ 700 from by first | omega | decide) (show 0 ≤ ((σ.1 66)).toInt from by first | omega | decide) (show ((σ.1 66)).toInt ≤ 700 from by first | omega | decide) (show 0 ≤ ((σ.1 65)).toInt from by first | omega | decide) (show ((σ.1 65)).toInt ≤ 350 from by first | omega | decide) (show 0 ≤ ((σ.1 68)).toInt from by first | omega | decide) (show ((σ.1 68)).toInt ≤ 24 from by first | omega | decide)) (cwV 0 hts (goodIn_cl hCLs (List.mem_of_getElem? (i := 7) rfl) (List.mem_of_getElem? (i := 8) rfl) (List.mem_of_getElem? (i := 9) rfl) (List.mem_of_getElem? (i := 3) rfl) (List.mem_of_getElem? (i := 10) rfl)) rfl rfl rfl (by decide +kernel) ⟨by (try dsimp only); omega, by (try dsimp only); omega⟩) (x_preV (q := (RX5, TX5, 8)) hK hP hD (ci := 4) (q0 := 0) rfl prw_o0) rfl rfl hl.1 rfl (lv_room (Nat.le_of_ble_eq_true rfl)) dX5_product_1 ⟨Nat.le_of_ble_eq_true rfl, Nat.le_of_ble_eq_true rfl⟩) hP hD hS hA (fun r_1 u H locs hw hP hD hS => ?_)
  obtain ⟨n_2, n_3, n_4, n_5, n_6, f_7, n_8, f_9, n_10⟩ := u
  try dsimp only at hw
  have hP : va_P D vwCl (prw y ad (sI (tI (sI (tI (sI (sI (sI (sI (sI σ 36 n_2) 37 n_3) 33 n_4) 34 n_5) 35 n_6) 71 f_7) 65 n_8) 72 f_9) 66 n_10)) H := hP
  have hD : va_D A (prw y ad (sI (tI (sI (tI (sI (sI (sI (sI (sI σ 36 n_2) 37 n_3) 33 n_4) 34 n_5) 35 n_6) 71 f_7) 65 n_8) 72 f_9) 66 n_10)) := hD
  replace hw : 0 ≤ n_6.toInt ∧ n_6.toInt ≤ 8 ∧ 0 ≤ n_10.toInt ∧ n_10.toInt ≤ 700 ∧ 0 ≤ n_8.toInt ∧ n_8.toInt ≤ 350 ∧ (r_1.toInt = 0 ∨ r_1.toInt = 1) ∧ (r_1.toInt = 1 → n_6.toInt = ((σ.1 35)).toInt) := hw
  obtain ⟨ho1, hp1, hq1, hr1, hs1, ht1, hu1, hv1⟩ := hw
  have hw := hu1
  refine lv_if_ne (tgt := 9) hx hb dX5_product_4 (by decide) (fun c_11 => ?_) (fun c_11 => ?_)
  · have kc_11 : r_1.toInt ≠ 0 := by have h9 := c_11; simp only [ge_iff_le, gt_iff_lt, x_lt, x_le, x_eq, ne_eq, Int32.not_lt, Int32.not_le] at h9; simp only [Int32.reduceToInt] at h9; omega
    refine lv_iconst (v := 0) hx hb dX5_product_9 (by decide) ?_
    refine lv_istore_n (lv' := [(1, .int 0), (0, .ref (ad 30))]) hx hb dX5_product_10 rfl hl (by decide) rfl (fun ls hl => ?_)
    have l00 : (0 : Int32).toInt = 0 := rfl
    have loop : ∀ (fu : Nat) (i : Int32) (v_kindOfFault : Int32) (v_bytesIntoToken : Int32) (v_at : Int32) (v_kind : Int32) (v_open : Int32) (v_number : Nat → Int32) (v_numbers : Int32) (v_code : Nat → Int32) (v_length : Int32) (H : Heap) (locs : List Loc) (ls : Array Slot), (0 ≤ i.toInt) → (i.toInt ≤ 700) → (v_open.toInt = (σ.1 35).toInt) → (0 ≤ v_length.toInt) → (v_length.toInt ≤ 700) → (0 ≤ v_numbers.toInt) → (v_numbers.toInt ≤ 350) → (700 - i.toInt < (fu : Int)) → va_P D vwCl (prw y ad (sI (tI (sI (tI (sI (sI (sI (sI (sI σ 36 v_kindOfFault) 37 v_bytesIntoToken) 33 v_at) 34 v_kind) 35 v_open) 71 v_number) 65 v_numbers) 72 v_code) 66 v_length)) H → va_D A (prw y ad (sI (tI (sI (tI (sI (sI (sI (sI (sI σ 36 v_kindOfFault) 37 v_bytesIntoToken) 33 v_at) 34 v_kind) 35 v_open) 71 v_number) 65 v_numbers) 72 v_code) 66 v_length)) → va_S A s.heap H locs → lv_has ls 3 [(1, .int i), (0, .ref (ad 30))] → W p l e ({ frames := 5 * d + 19, cells := 0, slots := 0, locals := 150 * d + 570 } : Room) s m ([.ref (ad 30)] : List Value).toArray below meth c H locs 0 0 Q (F0 m 11 ls []) := by
      intro fu
      induction fu with
      | zero =>
        intro i v_kindOfFault v_bytesIntoToken v_at v_kind v_open v_number v_numbers v_code v_length H locs ls hi0 hi1 hop hvlength0 hvlength1 hvnumbers0 hvnumbers1 hm
        exact absurd hm (by omega)
      | succ fu ih_loop =>
        intro i v_kindOfFault v_bytesIntoToken v_at v_kind v_open v_number v_numbers v_code v_length H locs ls hi0 hi1 hop hvlength0 hvlength1 hvnumbers0 hvnumbers1 hm hP hD hS hl
        refine lv_iload_n hx hb dX5_product_11 rfl (lv_at hl 0 rfl) ?_
        refine lv_sipush (v := 700) hx hb dX5_product_12 (by decide) ?_
        refine lv_icmp_ge (tgt := 81) hx hb dX5_product_15 (by decide) (fun c_12 => ?_) (fun c_12 => ?_)
        · have kc_12 : i.toInt ≥ 700 := by have h9 := c_12; simp only [ge_iff_le, gt_iff_lt, x_lt, x_le, x_eq, ne_eq, Int32.not_lt, Int32.not_le] at h9; simp only [Int32.reduceToInt] at h9; omega
          refine lv_iconst (v := 1) hx hb dX5_product_81 (by decide) ?_
          exact x_zretW (v := 1) (u := (v_kindOfFault, v_bytesIntoToken, v_at, v_kind, v_open, v_number, v_numbers, v_code, v_length)) hx hb hr hQ rfl (by (try dsimp only); exact ⟨by omega, by omega, by omega, by omega, by omega, by omega, by first | decide | omega, by first | omega | exact fun h9 => absurd h9 (by decide)⟩) hP hD hK hS dX5_product_82 hlocks
        · have kc_12 : i.toInt < 700 := by have h9 := c_12; simp only [ge_iff_le, gt_iff_lt, x_lt, x_le, x_eq, ne_eq, Int32.not_lt, Int32.not_le] at h9; simp only [Int32.reduceToInt] at h9; omega
          refine lv_aload_n hx hb dX5_product_18 rfl (lv_at hl 1 rfl) ?_
          refine va_get (D := D) (ci := 4) (v := .int v_kind) (C := RX5) (T := TX5) (N := 8) hx hb hts inX5 hown hK hP 0 prw_o0 rfl 3 (by decide) fl45 (fun _ h9 => h9) rfl dX5_product_19 ?_
          refine lv_bipush (v := 42) hx hb dX5_product_22 (by decide) ?_
          refine lv_icmp_eq (tgt := 36) hx hb dX5_product_24 (by decide) (fun c_13 => ?_) (fun c_13 => ?_)
          · have kc_13 : v_kind.toInt = 42 := by have h9 := c_13; simp only [ge_iff_le, gt_iff_lt, x_lt, x_le, x_eq, ne_eq, Int32.not_lt, Int32.not_le] at h9; simp only [Int32.reduceToInt] at h9; omega
            refine lv_aload_n hx hb dX5_product_36 rfl (lv_at hl 1 rfl) ?_
            refine va_get (D := D) (ci := 4) (v := .int v_kind) (C := RX5) (T := TX5) (N := 8) hx hb hts inX5 hown hK hP 0 prw_o0 rfl 3 (by decide) fl45 (fun _ h9 => h9) rfl dX5_product_37 ?_
            refine lv_bipush (v := 42) hx hb dX5_product_40 (by decide) ?_
            refine lv_icmp_ne (tgt := 50) hx hb dX5_product_42 (by decide) (fun c_14 => ?_) (fun c_14 => ?_)
            · have kc_14 : v_kind.toInt ≠ 42 := by have h9 := c_14; simp only [ge_iff_le, gt_iff_lt, x_lt, x_le, x_eq, ne_eq, Int32.not_lt, Int32.not_le] at h9; simp only [Int32.reduceToInt] at h9; omega
              refine lv_bipush (v := 9) hx hb dX5_product_50 (by decide) ?_
              refine lv_istore_n (lv' := [(2, .int 9), (1, .int i), (0, .ref (ad 30))]) hx hb dX5_product_52 rfl hl (by decide) rfl (fun ls hl => ?_)
              refine lv_aload_n hx hb dX5_product_53 rfl (lv_at hl 2 rfl) ?_
              refine x_callvW (va_runV (As := []) (rest := []) ⟨hx, hb, hml, hown, hts⟩ (z_pass l D y H.size ad (sI (tI (sI (tI (sI (sI (sI (sI (sI σ 36 v_kindOfFault) 37 v_bytesIntoToken) 33 v_at) 34 v_kind) 35 v_open) 71 v_number) 65 v_numbers) 72 v_code) 66 v_length) (show 0 ≤ ((σ.1 45)).toInt from by first | omega | decide) (show ((σ.1 45)).toInt ≤ 700 from by first | omega | decide)) (cwV 0 hts (goodIn_cons gCLs_0) rfl rfl rfl (by decide +kernel) ⟨by (try dsimp only); omega, by (try dsimp only); omega⟩) (x_preV (q := (RX5, TX5, 8)) hK hP hD (ci := 4) (q0 := 0) rfl prw_o0) rfl rfl hl.1 rfl (lv_room (Nat.le_of_ble_eq_true rfl)) dX5_product_54 ⟨Nat.le_of_ble_eq_true rfl, Nat.le_of_ble_eq_true rfl⟩) hP hD hS hA (fun u H locs hw hP hD hS => ?_)
              obtain ⟨n_15, n_16⟩ := u
              try dsimp only at hw
              have hP : va_P D vwCl (prw y ad (sI (sI (sI (tI (sI (tI (sI (sI (sI (sI (sI σ 36 v_kindOfFault) 37 v_bytesIntoToken) 33 v_at) 34 v_kind) 35 v_open) 71 v_number) 65 v_numbers) 72 v_code) 66 v_length) 33 n_15) 34 n_16)) H := hP
              have hD : va_D A (prw y ad (sI (sI (sI (tI (sI (tI (sI (sI (sI (sI (sI σ 36 v_kindOfFault) 37 v_bytesIntoToken) 33 v_at) 34 v_kind) 35 v_open) 71 v_number) 65 v_numbers) 72 v_code) 66 v_length) 33 n_15) 34 n_16)) := hD
              replace hw : True := hw
              refine lv_aload_n hx hb dX5_product_57 rfl (lv_at hl 2 rfl) ?_
              refine x_calliW (va_runV (As := []) (rest := []) ⟨hx, hb, hml, hown, hts⟩ (z_partR l D y H.size ad (sI (sI (sI (tI (sI (tI (sI (sI (sI (sI (sI σ 36 v_kindOfFault) 37 v_bytesIntoToken) 33 v_at) 34 v_kind) 35 v_open) 71 v_number) 65 v_numbers) 72 v_code) 66 v_length) 33 n_15) 34 n_16) d ihs (show 8 - (v_open).toInt ≤ (d : Int) from by first | omega | decide) (show 0 ≤ (v_open).toInt from by first | omega | decide) (show (v_open).toInt ≤ 8 from by first | omega | decide) (show 0 ≤ ((σ.1 45)).toInt from by first | omega | decide) (show ((σ.1 45)).toInt ≤ 700 from by first | omega | decide) (show 0 ≤ (v_length).toInt from by first | omega | decide) (show (v_length).toInt ≤ 700 from by first | omega | decide) (show 0 ≤ (v_numbers).toInt from by first | omega | decide) (show (v_numbers).toInt ≤ 350 from by first | omega | decide) (show 0 ≤ ((σ.1 68)).toInt from by first | omega | decide) (show ((σ.1 68)).toInt ≤ 24 from by first | omega | decide)) (cwV 0 hts (goodIn_cl hCLs (List.mem_of_getElem? (i := 7) rfl) (List.mem_of_getElem? (i := 8) rfl) (List.mem_of_getElem? (i := 9) rfl) (List.mem_of_getElem? (i := 3) rfl) (List.mem_of_getElem? (i := 10) rfl)) rfl rfl rfl (by decide +kernel) ⟨by (try dsimp only); omega, by (try dsimp only); omega⟩) (x_preV (q := (RX5, TX5, 8)) hK hP hD (ci := 4) (q0 := 0) rfl prw_o0) rfl rfl hl.1 rfl (lv_room (Nat.le_of_ble_eq_true rfl)) dX5_product_58 ⟨Nat.le_of_ble_eq_true rfl, Nat.le_of_ble_eq_true rfl⟩) hP hD hS hA (fun r_17 u H locs hw hP hD hS => ?_)
              obtain ⟨n_18, n_19, n_20, n_21, n_22, f_23, n_24, f_25, n_26⟩ := u
              try dsimp only at hw
              have hP : va_P D vwCl (prw y ad (sI (tI (sI (tI (sI (sI (sI (sI (sI (sI (sI (sI (tI (sI (tI (sI (sI (sI (sI (sI σ 36 v_kindOfFault) 37 v_bytesIntoToken) 33 v_at) 34 v_kind) 35 v_open) 71 v_number) 65 v_numbers) 72 v_code) 66 v_length) 33 n_15) 34 n_16) 36 n_18) 37 n_19) 33 n_20) 34 n_21) 35 n_22) 71 f_23) 65 n_24) 72 f_25) 66 n_26)) H := hP
              have hD : va_D A (prw y ad (sI (tI (sI (tI (sI (sI (sI (sI (sI (sI (sI (sI (tI (sI (tI (sI (sI (sI (sI (sI σ 36 v_kindOfFault) 37 v_bytesIntoToken) 33 v_at) 34 v_kind) 35 v_open) 71 v_number) 65 v_numbers) 72 v_code) 66 v_length) 33 n_15) 34 n_16) 36 n_18) 37 n_19) 33 n_20) 34 n_21) 35 n_22) 71 f_23) 65 n_24) 72 f_25) 66 n_26)) := hD
              replace hw : 0 ≤ n_22.toInt ∧ n_22.toInt ≤ 8 ∧ 0 ≤ n_26.toInt ∧ n_26.toInt ≤ 700 ∧ 0 ≤ n_24.toInt ∧ n_24.toInt ≤ 350 ∧ (r_17.toInt = 0 ∨ r_17.toInt = 1) ∧ (r_17.toInt = 1 → n_22.toInt = (v_open).toInt) := hw
              obtain ⟨ho2, hp2, hq2, hr2, hs2, ht2, hu2, hv2⟩ := hw
              have hw := hu2
              refine lv_if_ne (tgt := 66) hx hb dX5_product_61 (by decide) (fun c_27 => ?_) (fun c_27 => ?_)
              · have kc_27 : r_17.toInt ≠ 0 := by have h9 := c_27; simp only [ge_iff_le, gt_iff_lt, x_lt, x_le, x_eq, ne_eq, Int32.not_lt, Int32.not_le] at h9; simp only [Int32.reduceToInt] at h9; omega
                refine lv_aload_n hx hb dX5_product_66 rfl (lv_at hl 2 rfl) ?_
                refine va_get (D := D) (ci := 4) (v := .ref (ad 60)) (C := RX5) (T := TX5) (N := 8) hx hb hts inX5 hown hK hP 0 prw_o0 rfl 1 (by decide) fl34 (fun _ h9 => h9) rfl dX5_product_67 ?_
                refine lv_iload_n hx hb dX5_product_70 rfl (lv_at hl 0 rfl) ?_
                refine lv_iconst (v := 0) hx hb dX5_product_71 (by decide) ?_
                have hPs : va_P D vwCl (pgw y ad (sI (tI (sI (tI (sI (sI (sI (sI (sI (sI (sI (sI (tI (sI (tI (sI (sI (sI (sI (sI σ 36 v_kindOfFault) 37 v_bytesIntoToken) 33 v_at) 34 v_kind) 35 v_open) 71 v_number) 65 v_numbers) 72 v_code) 66 v_length) 33 n_15) 34 n_16) 36 n_18) 37 n_19) 33 n_20) 34 n_21) 35 n_22) 71 f_23) 65 n_24) 72 f_25) 66 n_26)) H := x_suP hP [2, 7, 8, 9, 10, 11, 12] rfl
                have hDs : va_D A (pgw y ad (sI (tI (sI (tI (sI (sI (sI (sI (sI (sI (sI (sI (tI (sI (tI (sI (sI (sI (sI (sI σ 36 v_kindOfFault) 37 v_bytesIntoToken) 33 v_at) 34 v_kind) 35 v_open) 71 v_number) 65 v_numbers) 72 v_code) 66 v_length) 33 n_15) 34 n_16) 36 n_18) 37 n_19) 33 n_20) 34 n_21) 35 n_22) 71 f_23) 65 n_24) 72 f_25) 66 n_26)) := x_suD hD [2, 7, 8, 9, 10, 11, 12] rfl (by decide)
                refine x_callvS (b1 := fun (u : (Nat → Int32) × Int32) => (prw y ad (sI (tI (sI (tI (sI (tI (sI (sI (sI (sI (sI (sI (sI (sI (tI (sI (tI (sI (sI (sI (sI (sI σ 36 v_kindOfFault) 37 v_bytesIntoToken) 33 v_at) 34 v_kind) 35 v_open) 71 v_number) 65 v_numbers) 72 v_code) 66 v_length) 33 n_15) 34 n_16) 36 n_18) 37 n_19) 33 n_20) 34 n_21) 35 n_22) 71 f_23) 65 n_24) 72 f_25) 66 n_26) 72 u.1) 66 u.2))) [2, 7, 8, 9, 10, 11, 12] (va_runV (As := [.int 9, .int 0]) (rest := []) ⟨hx, hb, hml, hown, hts⟩ (w_emit l D y H.size ad (sI (tI (sI (tI (sI (sI (sI (sI (sI (sI (sI (sI (tI (sI (tI (sI (sI (sI (sI (sI σ 36 v_kindOfFault) 37 v_bytesIntoToken) 33 v_at) 34 v_kind) 35 v_open) 71 v_number) 65 v_numbers) 72 v_code) 66 v_length) 33 n_15) 34 n_16) 36 n_18) 37 n_19) 33 n_20) 34 n_21) 35 n_22) 71 f_23) 65 n_24) 72 f_25) 66 n_26) 9 0 (show 0 ≤ (n_26).toInt from by first | omega | decide) (show (n_26).toInt ≤ 700 from by first | omega | decide)) (cwV 2 hts (goodIn_cons gCLs_1) rfl rfl rfl (by decide +kernel) ⟨by (try dsimp only); omega, by (try dsimp only); omega⟩) (x_preV (q := (RX6, TX6, 13)) hK hPs hDs (ci := 5) (q0 := 0) rfl pgw_o0) rfl rfl hl.1 rfl (lv_room (Nat.le_of_ble_eq_true rfl)) dX5_product_72 ⟨Nat.le_of_ble_eq_true rfl, Nat.le_of_ble_eq_true rfl⟩) hP hD hS hA rfl (fun _ => rfl) (fun _ => rfl) (fun _ => rfl) (fun u H locs hw hP hD hS => ?_)
                obtain ⟨f_28, n_29⟩ := u
                try dsimp only at hw
                have hP : va_P D vwCl (prw y ad (sI (tI (sI (tI (sI (tI (sI (sI (sI (sI (sI (sI (sI (sI (tI (sI (tI (sI (sI (sI (sI (sI σ 36 v_kindOfFault) 37 v_bytesIntoToken) 33 v_at) 34 v_kind) 35 v_open) 71 v_number) 65 v_numbers) 72 v_code) 66 v_length) 33 n_15) 34 n_16) 36 n_18) 37 n_19) 33 n_20) 34 n_21) 35 n_22) 71 f_23) 65 n_24) 72 f_25) 66 n_26) 72 f_28) 66 n_29)) H := hP
                have hD : va_D A (prw y ad (sI (tI (sI (tI (sI (tI (sI (sI (sI (sI (sI (sI (sI (sI (tI (sI (tI (sI (sI (sI (sI (sI σ 36 v_kindOfFault) 37 v_bytesIntoToken) 33 v_at) 34 v_kind) 35 v_open) 71 v_number) 65 v_numbers) 72 v_code) 66 v_length) 33 n_15) 34 n_16) 36 n_18) 37 n_19) 33 n_20) 34 n_21) 35 n_22) 71 f_23) 65 n_24) 72 f_25) 66 n_26) 72 f_28) 66 n_29)) := hD
                replace hw : 0 ≤ n_29.toInt ∧ n_29.toInt ≤ 700 := hw
                obtain ⟨i_30, ei_30⟩ : ∃ z9 : Int32, z9 = i + 1 := ⟨_, rfl⟩
                have vi_30 : i_30.toInt = i.toInt + 1 := by have h9 := x_add ei_30 (by omega) (by omega); omega
                refine lv_iinc (v := i_30) (lv' := [(1, .int i_30), (2, .int 9), (0, .ref (ad 30))]) hx hb dX5_product_75 hl (k := 1) rfl (by rw [ei_30]; rfl) (by decide) rfl (fun ls hl => ?_)
                refine lv_goto (tgt := 11) hx hb dX5_product_78 (by decide) ?_
                have hP : va_P D vwCl (prw y ad (sI (tI (sI (tI (sI (sI (sI (sI (sI σ 36 n_18) 37 n_19) 33 n_20) 34 n_21) 35 n_22) 71 f_23) 65 n_24) 72 f_28) 66 n_29)) H := hP
                have hD : va_D A (prw y ad (sI (tI (sI (tI (sI (sI (sI (sI (sI σ 36 n_18) 37 n_19) 33 n_20) 34 n_21) 35 n_22) 71 f_23) 65 n_24) 72 f_28) 66 n_29)) := hD
                exact ih_loop i_30 n_18 n_19 n_20 n_21 n_22 f_23 n_24 f_28 n_29 H locs ls (by omega) (by omega) (by omega) (by omega) (by omega) (by omega) (by omega) (by omega) hP hD hS (lv_sub hl [0, 2] rfl)
              · have kc_27 : r_17.toInt = 0 := by have h9 := c_27; simp only [ge_iff_le, gt_iff_lt, x_lt, x_le, x_eq, ne_eq, Int32.not_lt, Int32.not_le] at h9; simp only [Int32.reduceToInt] at h9; omega
                refine lv_iconst (v := 0) hx hb dX5_product_64 (by decide) ?_
                have hP : va_P D vwCl (prw y ad (sI (tI (sI (tI (sI (sI (sI (sI (sI σ 36 n_18) 37 n_19) 33 n_20) 34 n_21) 35 n_22) 71 f_23) 65 n_24) 72 f_25) 66 n_26)) H := hP
                have hD : va_D A (prw y ad (sI (tI (sI (tI (sI (sI (sI (sI (sI σ 36 n_18) 37 n_19) 33 n_20) 34 n_21) 35 n_22) 71 f_23) 65 n_24) 72 f_25) 66 n_26)) := hD
                exact x_zretW (v := 0) (u := (n_18, n_19, n_20, n_21, n_22, f_23, n_24, f_25, n_26)) hx hb hr hQ rfl (by (try dsimp only); exact ⟨by omega, by omega, by omega, by omega, by omega, by omega, by first | decide | omega, by first | omega | exact fun h9 => absurd h9 (by decide)⟩) hP hD hK hS dX5_product_65 hlocks
            · have kc_14 : v_kind.toInt = 42 := by have h9 := c_14; simp only [ge_iff_le, gt_iff_lt, x_lt, x_le, x_eq, ne_eq, Int32.not_lt, Int32.not_le] at h9; simp only [Int32.reduceToInt] at h9; omega
              refine lv_bipush (v := 8) hx hb dX5_product_45 (by decide) ?_
              refine lv_goto (tgt := 52) hx hb dX5_product_47 (by decide) ?_
              refine lv_istore_n (lv' := [(2, .int 8), (1, .int i), (0, .ref (ad 30))]) hx hb dX5_product_52 rfl hl (by decide) rfl (fun ls hl => ?_)
              refine lv_aload_n hx hb dX5_product_53 rfl (lv_at hl 2 rfl) ?_
              refine x_callvW (va_runV (As := []) (rest := []) ⟨hx, hb, hml, hown, hts⟩ (z_pass l D y H.size ad (sI (tI (sI (tI (sI (sI (sI (sI (sI σ 36 v_kindOfFault) 37 v_bytesIntoToken) 33 v_at) 34 v_kind) 35 v_open) 71 v_number) 65 v_numbers) 72 v_code) 66 v_length) (show 0 ≤ ((σ.1 45)).toInt from by first | omega | decide) (show ((σ.1 45)).toInt ≤ 700 from by first | omega | decide)) (cwV 0 hts (goodIn_cons gCLs_0) rfl rfl rfl (by decide +kernel) ⟨by (try dsimp only); omega, by (try dsimp only); omega⟩) (x_preV (q := (RX5, TX5, 8)) hK hP hD (ci := 4) (q0 := 0) rfl prw_o0) rfl rfl hl.1 rfl (lv_room (Nat.le_of_ble_eq_true rfl)) dX5_product_54 ⟨Nat.le_of_ble_eq_true rfl, Nat.le_of_ble_eq_true rfl⟩) hP hD hS hA (fun u H locs hw hP hD hS => ?_)
              obtain ⟨n_31, n_32⟩ := u
              try dsimp only at hw
              have hP : va_P D vwCl (prw y ad (sI (sI (sI (tI (sI (tI (sI (sI (sI (sI (sI σ 36 v_kindOfFault) 37 v_bytesIntoToken) 33 v_at) 34 v_kind) 35 v_open) 71 v_number) 65 v_numbers) 72 v_code) 66 v_length) 33 n_31) 34 n_32)) H := hP
              have hD : va_D A (prw y ad (sI (sI (sI (tI (sI (tI (sI (sI (sI (sI (sI σ 36 v_kindOfFault) 37 v_bytesIntoToken) 33 v_at) 34 v_kind) 35 v_open) 71 v_number) 65 v_numbers) 72 v_code) 66 v_length) 33 n_31) 34 n_32)) := hD
              replace hw : True := hw
              refine lv_aload_n hx hb dX5_product_57 rfl (lv_at hl 2 rfl) ?_
              refine x_calliW (va_runV (As := []) (rest := []) ⟨hx, hb, hml, hown, hts⟩ (z_partR l D y H.size ad (sI (sI (sI (tI (sI (tI (sI (sI (sI (sI (sI σ 36 v_kindOfFault) 37 v_bytesIntoToken) 33 v_at) 34 v_kind) 35 v_open) 71 v_number) 65 v_numbers) 72 v_code) 66 v_length) 33 n_31) 34 n_32) d ihs (show 8 - (v_open).toInt ≤ (d : Int) from by first | omega | decide) (show 0 ≤ (v_open).toInt from by first | omega | decide) (show (v_open).toInt ≤ 8 from by first | omega | decide) (show 0 ≤ ((σ.1 45)).toInt from by first | omega | decide) (show ((σ.1 45)).toInt ≤ 700 from by first | omega | decide) (show 0 ≤ (v_length).toInt from by first | omega | decide) (show (v_length).toInt ≤ 700 from by first | omega | decide) (show 0 ≤ (v_numbers).toInt from by first | omega | decide) (show (v_numbers).toInt ≤ 350 from by first | omega | decide) (show 0 ≤ ((σ.1 68)).toInt from by first | omega | decide) (show ((σ.1 68)).toInt ≤ 24 from by first | omega | decide)) (cwV 0 hts (goodIn_cl hCLs (List.mem_of_getElem? (i := 7) rfl) (List.mem_of_getElem? (i := 8) rfl) (List.mem_of_getElem? (i := 9) rfl) (List.mem_of_getElem? (i := 3) rfl) (List.mem_of_getElem? (i := 10) rfl)) rfl rfl rfl (by decide +kernel) ⟨by (try dsimp only); omega, by (try dsimp only); omega⟩) (x_preV (q := (RX5, TX5, 8)) hK hP hD (ci := 4) (q0 := 0) rfl prw_o0) rfl rfl hl.1 rfl (lv_room (Nat.le_of_ble_eq_true rfl)) dX5_product_58 ⟨Nat.le_of_ble_eq_true rfl, Nat.le_of_ble_eq_true rfl⟩) hP hD hS hA (fun r_33 u H locs hw hP hD hS => ?_)
              obtain ⟨n_34, n_35, n_36, n_37, n_38, f_39, n_40, f_41, n_42⟩ := u
              try dsimp only at hw
              have hP : va_P D vwCl (prw y ad (sI (tI (sI (tI (sI (sI (sI (sI (sI (sI (sI (sI (tI (sI (tI (sI (sI (sI (sI (sI σ 36 v_kindOfFault) 37 v_bytesIntoToken) 33 v_at) 34 v_kind) 35 v_open) 71 v_number) 65 v_numbers) 72 v_code) 66 v_length) 33 n_31) 34 n_32) 36 n_34) 37 n_35) 33 n_36) 34 n_37) 35 n_38) 71 f_39) 65 n_40) 72 f_41) 66 n_42)) H := hP
              have hD : va_D A (prw y ad (sI (tI (sI (tI (sI (sI (sI (sI (sI (sI (sI (sI (tI (sI (tI (sI (sI (sI (sI (sI σ 36 v_kindOfFault) 37 v_bytesIntoToken) 33 v_at) 34 v_kind) 35 v_open) 71 v_number) 65 v_numbers) 72 v_code) 66 v_length) 33 n_31) 34 n_32) 36 n_34) 37 n_35) 33 n_36) 34 n_37) 35 n_38) 71 f_39) 65 n_40) 72 f_41) 66 n_42)) := hD
              replace hw : 0 ≤ n_38.toInt ∧ n_38.toInt ≤ 8 ∧ 0 ≤ n_42.toInt ∧ n_42.toInt ≤ 700 ∧ 0 ≤ n_40.toInt ∧ n_40.toInt ≤ 350 ∧ (r_33.toInt = 0 ∨ r_33.toInt = 1) ∧ (r_33.toInt = 1 → n_38.toInt = (v_open).toInt) := hw
              obtain ⟨ho3, hp3, hq3, hr3, hs3, ht3, hu3, hv3⟩ := hw
              have hw := hu3
              refine lv_if_ne (tgt := 66) hx hb dX5_product_61 (by decide) (fun c_43 => ?_) (fun c_43 => ?_)
              · have kc_43 : r_33.toInt ≠ 0 := by have h9 := c_43; simp only [ge_iff_le, gt_iff_lt, x_lt, x_le, x_eq, ne_eq, Int32.not_lt, Int32.not_le] at h9; simp only [Int32.reduceToInt] at h9; omega
                refine lv_aload_n hx hb dX5_product_66 rfl (lv_at hl 2 rfl) ?_
                refine va_get (D := D) (ci := 4) (v := .ref (ad 60)) (C := RX5) (T := TX5) (N := 8) hx hb hts inX5 hown hK hP 0 prw_o0 rfl 1 (by decide) fl34 (fun _ h9 => h9) rfl dX5_product_67 ?_
                refine lv_iload_n hx hb dX5_product_70 rfl (lv_at hl 0 rfl) ?_
                refine lv_iconst (v := 0) hx hb dX5_product_71 (by decide) ?_
                have hPs : va_P D vwCl (pgw y ad (sI (tI (sI (tI (sI (sI (sI (sI (sI (sI (sI (sI (tI (sI (tI (sI (sI (sI (sI (sI σ 36 v_kindOfFault) 37 v_bytesIntoToken) 33 v_at) 34 v_kind) 35 v_open) 71 v_number) 65 v_numbers) 72 v_code) 66 v_length) 33 n_31) 34 n_32) 36 n_34) 37 n_35) 33 n_36) 34 n_37) 35 n_38) 71 f_39) 65 n_40) 72 f_41) 66 n_42)) H := x_suP hP [2, 7, 8, 9, 10, 11, 12] rfl
                have hDs : va_D A (pgw y ad (sI (tI (sI (tI (sI (sI (sI (sI (sI (sI (sI (sI (tI (sI (tI (sI (sI (sI (sI (sI σ 36 v_kindOfFault) 37 v_bytesIntoToken) 33 v_at) 34 v_kind) 35 v_open) 71 v_number) 65 v_numbers) 72 v_code) 66 v_length) 33 n_31) 34 n_32) 36 n_34) 37 n_35) 33 n_36) 34 n_37) 35 n_38) 71 f_39) 65 n_40) 72 f_41) 66 n_42)) := x_suD hD [2, 7, 8, 9, 10, 11, 12] rfl (by decide)
                refine x_callvS (b1 := fun (u : (Nat → Int32) × Int32) => (prw y ad (sI (tI (sI (tI (sI (tI (sI (sI (sI (sI (sI (sI (sI (sI (tI (sI (tI (sI (sI (sI (sI (sI σ 36 v_kindOfFault) 37 v_bytesIntoToken) 33 v_at) 34 v_kind) 35 v_open) 71 v_number) 65 v_numbers) 72 v_code) 66 v_length) 33 n_31) 34 n_32) 36 n_34) 37 n_35) 33 n_36) 34 n_37) 35 n_38) 71 f_39) 65 n_40) 72 f_41) 66 n_42) 72 u.1) 66 u.2))) [2, 7, 8, 9, 10, 11, 12] (va_runV (As := [.int 8, .int 0]) (rest := []) ⟨hx, hb, hml, hown, hts⟩ (w_emit l D y H.size ad (sI (tI (sI (tI (sI (sI (sI (sI (sI (sI (sI (sI (tI (sI (tI (sI (sI (sI (sI (sI σ 36 v_kindOfFault) 37 v_bytesIntoToken) 33 v_at) 34 v_kind) 35 v_open) 71 v_number) 65 v_numbers) 72 v_code) 66 v_length) 33 n_31) 34 n_32) 36 n_34) 37 n_35) 33 n_36) 34 n_37) 35 n_38) 71 f_39) 65 n_40) 72 f_41) 66 n_42) 8 0 (show 0 ≤ (n_42).toInt from by first | omega | decide) (show (n_42).toInt ≤ 700 from by first | omega | decide)) (cwV 2 hts (goodIn_cons gCLs_1) rfl rfl rfl (by decide +kernel) ⟨by (try dsimp only); omega, by (try dsimp only); omega⟩) (x_preV (q := (RX6, TX6, 13)) hK hPs hDs (ci := 5) (q0 := 0) rfl pgw_o0) rfl rfl hl.1 rfl (lv_room (Nat.le_of_ble_eq_true rfl)) dX5_product_72 ⟨Nat.le_of_ble_eq_true rfl, Nat.le_of_ble_eq_true rfl⟩) hP hD hS hA rfl (fun _ => rfl) (fun _ => rfl) (fun _ => rfl) (fun u H locs hw hP hD hS => ?_)
                obtain ⟨f_44, n_45⟩ := u
                try dsimp only at hw
                have hP : va_P D vwCl (prw y ad (sI (tI (sI (tI (sI (tI (sI (sI (sI (sI (sI (sI (sI (sI (tI (sI (tI (sI (sI (sI (sI (sI σ 36 v_kindOfFault) 37 v_bytesIntoToken) 33 v_at) 34 v_kind) 35 v_open) 71 v_number) 65 v_numbers) 72 v_code) 66 v_length) 33 n_31) 34 n_32) 36 n_34) 37 n_35) 33 n_36) 34 n_37) 35 n_38) 71 f_39) 65 n_40) 72 f_41) 66 n_42) 72 f_44) 66 n_45)) H := hP
                have hD : va_D A (prw y ad (sI (tI (sI (tI (sI (tI (sI (sI (sI (sI (sI (sI (sI (sI (tI (sI (tI (sI (sI (sI (sI (sI σ 36 v_kindOfFault) 37 v_bytesIntoToken) 33 v_at) 34 v_kind) 35 v_open) 71 v_number) 65 v_numbers) 72 v_code) 66 v_length) 33 n_31) 34 n_32) 36 n_34) 37 n_35) 33 n_36) 34 n_37) 35 n_38) 71 f_39) 65 n_40) 72 f_41) 66 n_42) 72 f_44) 66 n_45)) := hD
                replace hw : 0 ≤ n_45.toInt ∧ n_45.toInt ≤ 700 := hw
                obtain ⟨i_46, ei_46⟩ : ∃ z9 : Int32, z9 = i + 1 := ⟨_, rfl⟩
                have vi_46 : i_46.toInt = i.toInt + 1 := by have h9 := x_add ei_46 (by omega) (by omega); omega
                refine lv_iinc (v := i_46) (lv' := [(1, .int i_46), (2, .int 8), (0, .ref (ad 30))]) hx hb dX5_product_75 hl (k := 1) rfl (by rw [ei_46]; rfl) (by decide) rfl (fun ls hl => ?_)
                refine lv_goto (tgt := 11) hx hb dX5_product_78 (by decide) ?_
                have hP : va_P D vwCl (prw y ad (sI (tI (sI (tI (sI (sI (sI (sI (sI σ 36 n_34) 37 n_35) 33 n_36) 34 n_37) 35 n_38) 71 f_39) 65 n_40) 72 f_44) 66 n_45)) H := hP
                have hD : va_D A (prw y ad (sI (tI (sI (tI (sI (sI (sI (sI (sI σ 36 n_34) 37 n_35) 33 n_36) 34 n_37) 35 n_38) 71 f_39) 65 n_40) 72 f_44) 66 n_45)) := hD
                exact ih_loop i_46 n_34 n_35 n_36 n_37 n_38 f_39 n_40 f_44 n_45 H locs ls (by omega) (by omega) (by omega) (by omega) (by omega) (by omega) (by omega) (by omega) hP hD hS (lv_sub hl [0, 2] rfl)
              · have kc_43 : r_33.toInt = 0 := by have h9 := c_43; simp only [ge_iff_le, gt_iff_lt, x_lt, x_le, x_eq, ne_eq, Int32.not_lt, Int32.not_le] at h9; simp only [Int32.reduceToInt] at h9; omega
                refine lv_iconst (v := 0) hx hb dX5_product_64 (by decide) ?_
                have hP : va_P D vwCl (prw y ad (sI (tI (sI (tI (sI (sI (sI (sI (sI σ 36 n_34) 37 n_35) 33 n_36) 34 n_37) 35 n_38) 71 f_39) 65 n_40) 72 f_41) 66 n_42)) H := hP
                have hD : va_D A (prw y ad (sI (tI (sI (tI (sI (sI (sI (sI (sI σ 36 n_34) 37 n_35) 33 n_36) 34 n_37) 35 n_38) 71 f_39) 65 n_40) 72 f_41) 66 n_42)) := hD
                exact x_zretW (v := 0) (u := (n_34, n_35, n_36, n_37, n_38, f_39, n_40, f_41, n_42)) hx hb hr hQ rfl (by (try dsimp only); exact ⟨by omega, by omega, by omega, by omega, by omega, by omega, by first | decide | omega, by first | omega | exact fun h9 => absurd h9 (by decide)⟩) hP hD hK hS dX5_product_65 hlocks
          · have kc_13 : v_kind.toInt ≠ 42 := by have h9 := c_13; simp only [ge_iff_le, gt_iff_lt, x_lt, x_le, x_eq, ne_eq, Int32.not_lt, Int32.not_le] at h9; simp only [Int32.reduceToInt] at h9; omega
            refine lv_aload_n hx hb dX5_product_27 rfl (lv_at hl 1 rfl) ?_
            refine va_get (D := D) (ci := 4) (v := .int v_kind) (C := RX5) (T := TX5) (N := 8) hx hb hts inX5 hown hK hP 0 prw_o0 rfl 3 (by decide) fl45 (fun _ h9 => h9) rfl dX5_product_28 ?_
            refine lv_bipush (v := 47) hx hb dX5_product_31 (by decide) ?_
            refine lv_icmp_ne (tgt := 81) hx hb dX5_product_33 (by decide) (fun c_47 => ?_) (fun c_47 => ?_)
            · have kc_47 : v_kind.toInt ≠ 47 := by have h9 := c_47; simp only [ge_iff_le, gt_iff_lt, x_lt, x_le, x_eq, ne_eq, Int32.not_lt, Int32.not_le] at h9; simp only [Int32.reduceToInt] at h9; omega
              refine lv_iconst (v := 1) hx hb dX5_product_81 (by decide) ?_
              exact x_zretW (v := 1) (u := (v_kindOfFault, v_bytesIntoToken, v_at, v_kind, v_open, v_number, v_numbers, v_code, v_length)) hx hb hr hQ rfl (by (try dsimp only); exact ⟨by omega, by omega, by omega, by omega, by omega, by omega, by first | decide | omega, by first | omega | exact fun h9 => absurd h9 (by decide)⟩) hP hD hK hS dX5_product_82 hlocks
            · have kc_47 : v_kind.toInt = 47 := by have h9 := c_47; simp only [ge_iff_le, gt_iff_lt, x_lt, x_le, x_eq, ne_eq, Int32.not_lt, Int32.not_le] at h9; simp only [Int32.reduceToInt] at h9; omega
              refine lv_aload_n hx hb dX5_product_36 rfl (lv_at hl 1 rfl) ?_
              refine va_get (D := D) (ci := 4) (v := .int v_kind) (C := RX5) (T := TX5) (N := 8) hx hb hts inX5 hown hK hP 0 prw_o0 rfl 3 (by decide) fl45 (fun _ h9 => h9) rfl dX5_product_37 ?_
              refine lv_bipush (v := 42) hx hb dX5_product_40 (by decide) ?_
              refine lv_icmp_ne (tgt := 50) hx hb dX5_product_42 (by decide) (fun c_48 => ?_) (fun c_48 => ?_)
              · have kc_48 : v_kind.toInt ≠ 42 := by have h9 := c_48; simp only [ge_iff_le, gt_iff_lt, x_lt, x_le, x_eq, ne_eq, Int32.not_lt, Int32.not_le] at h9; simp only [Int32.reduceToInt] at h9; omega
                refine lv_bipush (v := 9) hx hb dX5_product_50 (by decide) ?_
                refine lv_istore_n (lv' := [(2, .int 9), (1, .int i), (0, .ref (ad 30))]) hx hb dX5_product_52 rfl hl (by decide) rfl (fun ls hl => ?_)
                refine lv_aload_n hx hb dX5_product_53 rfl (lv_at hl 2 rfl) ?_
                refine x_callvW (va_runV (As := []) (rest := []) ⟨hx, hb, hml, hown, hts⟩ (z_pass l D y H.size ad (sI (tI (sI (tI (sI (sI (sI (sI (sI σ 36 v_kindOfFault) 37 v_bytesIntoToken) 33 v_at) 34 v_kind) 35 v_open) 71 v_number) 65 v_numbers) 72 v_code) 66 v_length) (show 0 ≤ ((σ.1 45)).toInt from by first | omega | decide) (show ((σ.1 45)).toInt ≤ 700 from by first | omega | decide)) (cwV 0 hts (goodIn_cons gCLs_0) rfl rfl rfl (by decide +kernel) ⟨by (try dsimp only); omega, by (try dsimp only); omega⟩) (x_preV (q := (RX5, TX5, 8)) hK hP hD (ci := 4) (q0 := 0) rfl prw_o0) rfl rfl hl.1 rfl (lv_room (Nat.le_of_ble_eq_true rfl)) dX5_product_54 ⟨Nat.le_of_ble_eq_true rfl, Nat.le_of_ble_eq_true rfl⟩) hP hD hS hA (fun u H locs hw hP hD hS => ?_)
                obtain ⟨n_49, n_50⟩ := u
                try dsimp only at hw
                have hP : va_P D vwCl (prw y ad (sI (sI (sI (tI (sI (tI (sI (sI (sI (sI (sI σ 36 v_kindOfFault) 37 v_bytesIntoToken) 33 v_at) 34 v_kind) 35 v_open) 71 v_number) 65 v_numbers) 72 v_code) 66 v_length) 33 n_49) 34 n_50)) H := hP
                have hD : va_D A (prw y ad (sI (sI (sI (tI (sI (tI (sI (sI (sI (sI (sI σ 36 v_kindOfFault) 37 v_bytesIntoToken) 33 v_at) 34 v_kind) 35 v_open) 71 v_number) 65 v_numbers) 72 v_code) 66 v_length) 33 n_49) 34 n_50)) := hD
                replace hw : True := hw
                refine lv_aload_n hx hb dX5_product_57 rfl (lv_at hl 2 rfl) ?_
                refine x_calliW (va_runV (As := []) (rest := []) ⟨hx, hb, hml, hown, hts⟩ (z_partR l D y H.size ad (sI (sI (sI (tI (sI (tI (sI (sI (sI (sI (sI σ 36 v_kindOfFault) 37 v_bytesIntoToken) 33 v_at) 34 v_kind) 35 v_open) 71 v_number) 65 v_numbers) 72 v_code) 66 v_length) 33 n_49) 34 n_50) d ihs (show 8 - (v_open).toInt ≤ (d : Int) from by first | omega | decide) (show 0 ≤ (v_open).toInt from by first | omega | decide) (show (v_open).toInt ≤ 8 from by first | omega | decide) (show 0 ≤ ((σ.1 45)).toInt from by first | omega | decide) (show ((σ.1 45)).toInt ≤ 700 from by first | omega | decide) (show 0 ≤ (v_length).toInt from by first | omega | decide) (show (v_length).toInt ≤ 700 from by first | omega | decide) (show 0 ≤ (v_numbers).toInt from by first | omega | decide) (show (v_numbers).toInt ≤ 350 from by first | omega | decide) (show 0 ≤ ((σ.1 68)).toInt from by first | omega | decide) (show ((σ.1 68)).toInt ≤ 24 from by first | omega | decide)) (cwV 0 hts (goodIn_cl hCLs (List.mem_of_getElem? (i := 7) rfl) (List.mem_of_getElem? (i := 8) rfl) (List.mem_of_getElem? (i := 9) rfl) (List.mem_of_getElem? (i := 3) rfl) (List.mem_of_getElem? (i := 10) rfl)) rfl rfl rfl (by decide +kernel) ⟨by (try dsimp only); omega, by (try dsimp only); omega⟩) (x_preV (q := (RX5, TX5, 8)) hK hP hD (ci := 4) (q0 := 0) rfl prw_o0) rfl rfl hl.1 rfl (lv_room (Nat.le_of_ble_eq_true rfl)) dX5_product_58 ⟨Nat.le_of_ble_eq_true rfl, Nat.le_of_ble_eq_true rfl⟩) hP hD hS hA (fun r_51 u H locs hw hP hD hS => ?_)
                obtain ⟨n_52, n_53, n_54, n_55, n_56, f_57, n_58, f_59, n_60⟩ := u
                try dsimp only at hw
                have hP : va_P D vwCl (prw y ad (sI (tI (sI (tI (sI (sI (sI (sI (sI (sI (sI (sI (tI (sI (tI (sI (sI (sI (sI (sI σ 36 v_kindOfFault) 37 v_bytesIntoToken) 33 v_at) 34 v_kind) 35 v_open) 71 v_number) 65 v_numbers) 72 v_code) 66 v_length) 33 n_49) 34 n_50) 36 n_52) 37 n_53) 33 n_54) 34 n_55) 35 n_56) 71 f_57) 65 n_58) 72 f_59) 66 n_60)) H := hP
                have hD : va_D A (prw y ad (sI (tI (sI (tI (sI (sI (sI (sI (sI (sI (sI (sI (tI (sI (tI (sI (sI (sI (sI (sI σ 36 v_kindOfFault) 37 v_bytesIntoToken) 33 v_at) 34 v_kind) 35 v_open) 71 v_number) 65 v_numbers) 72 v_code) 66 v_length) 33 n_49) 34 n_50) 36 n_52) 37 n_53) 33 n_54) 34 n_55) 35 n_56) 71 f_57) 65 n_58) 72 f_59) 66 n_60)) := hD
                replace hw : 0 ≤ n_56.toInt ∧ n_56.toInt ≤ 8 ∧ 0 ≤ n_60.toInt ∧ n_60.toInt ≤ 700 ∧ 0 ≤ n_58.toInt ∧ n_58.toInt ≤ 350 ∧ (r_51.toInt = 0 ∨ r_51.toInt = 1) ∧ (r_51.toInt = 1 → n_56.toInt = (v_open).toInt) := hw
                obtain ⟨ho4, hp4, hq4, hr4, hs4, ht4, hu4, hv4⟩ := hw
                have hw := hu4
                refine lv_if_ne (tgt := 66) hx hb dX5_product_61 (by decide) (fun c_61 => ?_) (fun c_61 => ?_)
                · have kc_61 : r_51.toInt ≠ 0 := by have h9 := c_61; simp only [ge_iff_le, gt_iff_lt, x_lt, x_le, x_eq, ne_eq, Int32.not_lt, Int32.not_le] at h9; simp only [Int32.reduceToInt] at h9; omega
                  refine lv_aload_n hx hb dX5_product_66 rfl (lv_at hl 2 rfl) ?_
                  refine va_get (D := D) (ci := 4) (v := .ref (ad 60)) (C := RX5) (T := TX5) (N := 8) hx hb hts inX5 hown hK hP 0 prw_o0 rfl 1 (by decide) fl34 (fun _ h9 => h9) rfl dX5_product_67 ?_
                  refine lv_iload_n hx hb dX5_product_70 rfl (lv_at hl 0 rfl) ?_
                  refine lv_iconst (v := 0) hx hb dX5_product_71 (by decide) ?_
                  have hPs : va_P D vwCl (pgw y ad (sI (tI (sI (tI (sI (sI (sI (sI (sI (sI (sI (sI (tI (sI (tI (sI (sI (sI (sI (sI σ 36 v_kindOfFault) 37 v_bytesIntoToken) 33 v_at) 34 v_kind) 35 v_open) 71 v_number) 65 v_numbers) 72 v_code) 66 v_length) 33 n_49) 34 n_50) 36 n_52) 37 n_53) 33 n_54) 34 n_55) 35 n_56) 71 f_57) 65 n_58) 72 f_59) 66 n_60)) H := x_suP hP [2, 7, 8, 9, 10, 11, 12] rfl
                  have hDs : va_D A (pgw y ad (sI (tI (sI (tI (sI (sI (sI (sI (sI (sI (sI (sI (tI (sI (tI (sI (sI (sI (sI (sI σ 36 v_kindOfFault) 37 v_bytesIntoToken) 33 v_at) 34 v_kind) 35 v_open) 71 v_number) 65 v_numbers) 72 v_code) 66 v_length) 33 n_49) 34 n_50) 36 n_52) 37 n_53) 33 n_54) 34 n_55) 35 n_56) 71 f_57) 65 n_58) 72 f_59) 66 n_60)) := x_suD hD [2, 7, 8, 9, 10, 11, 12] rfl (by decide)
                  refine x_callvS (b1 := fun (u : (Nat → Int32) × Int32) => (prw y ad (sI (tI (sI (tI (sI (tI (sI (sI (sI (sI (sI (sI (sI (sI (tI (sI (tI (sI (sI (sI (sI (sI σ 36 v_kindOfFault) 37 v_bytesIntoToken) 33 v_at) 34 v_kind) 35 v_open) 71 v_number) 65 v_numbers) 72 v_code) 66 v_length) 33 n_49) 34 n_50) 36 n_52) 37 n_53) 33 n_54) 34 n_55) 35 n_56) 71 f_57) 65 n_58) 72 f_59) 66 n_60) 72 u.1) 66 u.2))) [2, 7, 8, 9, 10, 11, 12] (va_runV (As := [.int 9, .int 0]) (rest := []) ⟨hx, hb, hml, hown, hts⟩ (w_emit l D y H.size ad (sI (tI (sI (tI (sI (sI (sI (sI (sI (sI (sI (sI (tI (sI (tI (sI (sI (sI (sI (sI σ 36 v_kindOfFault) 37 v_bytesIntoToken) 33 v_at) 34 v_kind) 35 v_open) 71 v_number) 65 v_numbers) 72 v_code) 66 v_length) 33 n_49) 34 n_50) 36 n_52) 37 n_53) 33 n_54) 34 n_55) 35 n_56) 71 f_57) 65 n_58) 72 f_59) 66 n_60) 9 0 (show 0 ≤ (n_60).toInt from by first | omega | decide) (show (n_60).toInt ≤ 700 from by first | omega | decide)) (cwV 2 hts (goodIn_cons gCLs_1) rfl rfl rfl (by decide +kernel) ⟨by (try dsimp only); omega, by (try dsimp only); omega⟩) (x_preV (q := (RX6, TX6, 13)) hK hPs hDs (ci := 5) (q0 := 0) rfl pgw_o0) rfl rfl hl.1 rfl (lv_room (Nat.le_of_ble_eq_true rfl)) dX5_product_72 ⟨Nat.le_of_ble_eq_true rfl, Nat.le_of_ble_eq_true rfl⟩) hP hD hS hA rfl (fun _ => rfl) (fun _ => rfl) (fun _ => rfl) (fun u H locs hw hP hD hS => ?_)
                  obtain ⟨f_62, n_63⟩ := u
                  try dsimp only at hw
                  have hP : va_P D vwCl (prw y ad (sI (tI (sI (tI (sI (tI (sI (sI (sI (sI (sI (sI (sI (sI (tI (sI (tI (sI (sI (sI (sI (sI σ 36 v_kindOfFault) 37 v_bytesIntoToken) 33 v_at) 34 v_kind) 35 v_open) 71 v_number) 65 v_numbers) 72 v_code) 66 v_length) 33 n_49) 34 n_50) 36 n_52) 37 n_53) 33 n_54) 34 n_55) 35 n_56) 71 f_57) 65 n_58) 72 f_59) 66 n_60) 72 f_62) 66 n_63)) H := hP
                  have hD : va_D A (prw y ad (sI (tI (sI (tI (sI (tI (sI (sI (sI (sI (sI (sI (sI (sI (tI (sI (tI (sI (sI (sI (sI (sI σ 36 v_kindOfFault) 37 v_bytesIntoToken) 33 v_at) 34 v_kind) 35 v_open) 71 v_number) 65 v_numbers) 72 v_code) 66 v_length) 33 n_49) 34 n_50) 36 n_52) 37 n_53) 33 n_54) 34 n_55) 35 n_56) 71 f_57) 65 n_58) 72 f_59) 66 n_60) 72 f_62) 66 n_63)) := hD
                  replace hw : 0 ≤ n_63.toInt ∧ n_63.toInt ≤ 700 := hw
                  obtain ⟨i_64, ei_64⟩ : ∃ z9 : Int32, z9 = i + 1 := ⟨_, rfl⟩
                  have vi_64 : i_64.toInt = i.toInt + 1 := by have h9 := x_add ei_64 (by omega) (by omega); omega
                  refine lv_iinc (v := i_64) (lv' := [(1, .int i_64), (2, .int 9), (0, .ref (ad 30))]) hx hb dX5_product_75 hl (k := 1) rfl (by rw [ei_64]; rfl) (by decide) rfl (fun ls hl => ?_)
                  refine lv_goto (tgt := 11) hx hb dX5_product_78 (by decide) ?_
                  have hP : va_P D vwCl (prw y ad (sI (tI (sI (tI (sI (sI (sI (sI (sI σ 36 n_52) 37 n_53) 33 n_54) 34 n_55) 35 n_56) 71 f_57) 65 n_58) 72 f_62) 66 n_63)) H := hP
                  have hD : va_D A (prw y ad (sI (tI (sI (tI (sI (sI (sI (sI (sI σ 36 n_52) 37 n_53) 33 n_54) 34 n_55) 35 n_56) 71 f_57) 65 n_58) 72 f_62) 66 n_63)) := hD
                  exact ih_loop i_64 n_52 n_53 n_54 n_55 n_56 f_57 n_58 f_62 n_63 H locs ls (by omega) (by omega) (by omega) (by omega) (by omega) (by omega) (by omega) (by omega) hP hD hS (lv_sub hl [0, 2] rfl)
                · have kc_61 : r_51.toInt = 0 := by have h9 := c_61; simp only [ge_iff_le, gt_iff_lt, x_lt, x_le, x_eq, ne_eq, Int32.not_lt, Int32.not_le] at h9; simp only [Int32.reduceToInt] at h9; omega
                  refine lv_iconst (v := 0) hx hb dX5_product_64 (by decide) ?_
                  have hP : va_P D vwCl (prw y ad (sI (tI (sI (tI (sI (sI (sI (sI (sI σ 36 n_52) 37 n_53) 33 n_54) 34 n_55) 35 n_56) 71 f_57) 65 n_58) 72 f_59) 66 n_60)) H := hP
                  have hD : va_D A (prw y ad (sI (tI (sI (tI (sI (sI (sI (sI (sI σ 36 n_52) 37 n_53) 33 n_54) 34 n_55) 35 n_56) 71 f_57) 65 n_58) 72 f_59) 66 n_60)) := hD
                  exact x_zretW (v := 0) (u := (n_52, n_53, n_54, n_55, n_56, f_57, n_58, f_59, n_60)) hx hb hr hQ rfl (by (try dsimp only); exact ⟨by omega, by omega, by omega, by omega, by omega, by omega, by first | decide | omega, by first | omega | exact fun h9 => absurd h9 (by decide)⟩) hP hD hK hS dX5_product_65 hlocks
              · have kc_48 : v_kind.toInt = 42 := by have h9 := c_48; simp only [ge_iff_le, gt_iff_lt, x_lt, x_le, x_eq, ne_eq, Int32.not_lt, Int32.not_le] at h9; simp only [Int32.reduceToInt] at h9; omega
                refine lv_bipush (v := 8) hx hb dX5_product_45 (by decide) ?_
                refine lv_goto (tgt := 52) hx hb dX5_product_47 (by decide) ?_
                refine lv_istore_n (lv' := [(2, .int 8), (1, .int i), (0, .ref (ad 30))]) hx hb dX5_product_52 rfl hl (by decide) rfl (fun ls hl => ?_)
                refine lv_aload_n hx hb dX5_product_53 rfl (lv_at hl 2 rfl) ?_
                refine x_callvW (va_runV (As := []) (rest := []) ⟨hx, hb, hml, hown, hts⟩ (z_pass l D y H.size ad (sI (tI (sI (tI (sI (sI (sI (sI (sI σ 36 v_kindOfFault) 37 v_bytesIntoToken) 33 v_at) 34 v_kind) 35 v_open) 71 v_number) 65 v_numbers) 72 v_code) 66 v_length) (show 0 ≤ ((σ.1 45)).toInt from by first | omega | decide) (show ((σ.1 45)).toInt ≤ 700 from by first | omega | decide)) (cwV 0 hts (goodIn_cons gCLs_0) rfl rfl rfl (by decide +kernel) ⟨by (try dsimp only); omega, by (try dsimp only); omega⟩) (x_preV (q := (RX5, TX5, 8)) hK hP hD (ci := 4) (q0 := 0) rfl prw_o0) rfl rfl hl.1 rfl (lv_room (Nat.le_of_ble_eq_true rfl)) dX5_product_54 ⟨Nat.le_of_ble_eq_true rfl, Nat.le_of_ble_eq_true rfl⟩) hP hD hS hA (fun u H locs hw hP hD hS => ?_)
                obtain ⟨n_65, n_66⟩ := u
                try dsimp only at hw
                have hP : va_P D vwCl (prw y ad (sI (sI (sI (tI (sI (tI (sI (sI (sI (sI (sI σ 36 v_kindOfFault) 37 v_bytesIntoToken) 33 v_at) 34 v_kind) 35 v_open) 71 v_number) 65 v_numbers) 72 v_code) 66 v_length) 33 n_65) 34 n_66)) H := hP
                have hD : va_D A (prw y ad (sI (sI (sI (tI (sI (tI (sI (sI (sI (sI (sI σ 36 v_kindOfFault) 37 v_bytesIntoToken) 33 v_at) 34 v_kind) 35 v_open) 71 v_number) 65 v_numbers) 72 v_code) 66 v_length) 33 n_65) 34 n_66)) := hD
                replace hw : True := hw
                refine lv_aload_n hx hb dX5_product_57 rfl (lv_at hl 2 rfl) ?_
                refine x_calliW (va_runV (As := []) (rest := []) ⟨hx, hb, hml, hown, hts⟩ (z_partR l D y H.size ad (sI (sI (sI (tI (sI (tI (sI (sI (sI (sI (sI σ 36 v_kindOfFault) 37 v_bytesIntoToken) 33 v_at) 34 v_kind) 35 v_open) 71 v_number) 65 v_numbers) 72 v_code) 66 v_length) 33 n_65) 34 n_66) d ihs (show 8 - (v_open).toInt ≤ (d : Int) from by first | omega | decide) (show 0 ≤ (v_open).toInt from by first | omega | decide) (show (v_open).toInt ≤ 8 from by first | omega | decide) (show 0 ≤ ((σ.1 45)).toInt from by first | omega | decide) (show ((σ.1 45)).toInt ≤ 700 from by first | omega | decide) (show 0 ≤ (v_length).toInt from by first | omega | decide) (show (v_length).toInt ≤ 700 from by first | omega | decide) (show 0 ≤ (v_numbers).toInt from by first | omega | decide) (show (v_numbers).toInt ≤ 350 from by first | omega | decide) (show 0 ≤ ((σ.1 68)).toInt from by first | omega | decide) (show ((σ.1 68)).toInt ≤ 24 from by first | omega | decide)) (cwV 0 hts (goodIn_cl hCLs (List.mem_of_getElem? (i := 7) rfl) (List.mem_of_getElem? (i := 8) rfl) (List.mem_of_getElem? (i := 9) rfl) (List.mem_of_getElem? (i := 3) rfl) (List.mem_of_getElem? (i := 10) rfl)) rfl rfl rfl (by decide +kernel) ⟨by (try dsimp only); omega, by (try dsimp only); omega⟩) (x_preV (q := (RX5, TX5, 8)) hK hP hD (ci := 4) (q0 := 0) rfl prw_o0) rfl rfl hl.1 rfl (lv_room (Nat.le_of_ble_eq_true rfl)) dX5_product_58 ⟨Nat.le_of_ble_eq_true rfl, Nat.le_of_ble_eq_true rfl⟩) hP hD hS hA (fun r_67 u H locs hw hP hD hS => ?_)
                obtain ⟨n_68, n_69, n_70, n_71, n_72, f_73, n_74, f_75, n_76⟩ := u
                try dsimp only at hw
                have hP : va_P D vwCl (prw y ad (sI (tI (sI (tI (sI (sI (sI (sI (sI (sI (sI (sI (tI (sI (tI (sI (sI (sI (sI (sI σ 36 v_kindOfFault) 37 v_bytesIntoToken) 33 v_at) 34 v_kind) 35 v_open) 71 v_number) 65 v_numbers) 72 v_code) 66 v_length) 33 n_65) 34 n_66) 36 n_68) 37 n_69) 33 n_70) 34 n_71) 35 n_72) 71 f_73) 65 n_74) 72 f_75) 66 n_76)) H := hP
                have hD : va_D A (prw y ad (sI (tI (sI (tI (sI (sI (sI (sI (sI (sI (sI (sI (tI (sI (tI (sI (sI (sI (sI (sI σ 36 v_kindOfFault) 37 v_bytesIntoToken) 33 v_at) 34 v_kind) 35 v_open) 71 v_number) 65 v_numbers) 72 v_code) 66 v_length) 33 n_65) 34 n_66) 36 n_68) 37 n_69) 33 n_70) 34 n_71) 35 n_72) 71 f_73) 65 n_74) 72 f_75) 66 n_76)) := hD
                replace hw : 0 ≤ n_72.toInt ∧ n_72.toInt ≤ 8 ∧ 0 ≤ n_76.toInt ∧ n_76.toInt ≤ 700 ∧ 0 ≤ n_74.toInt ∧ n_74.toInt ≤ 350 ∧ (r_67.toInt = 0 ∨ r_67.toInt = 1) ∧ (r_67.toInt = 1 → n_72.toInt = (v_open).toInt) := hw
                obtain ⟨ho5, hp5, hq5, hr5, hs5, ht5, hu5, hv5⟩ := hw
                have hw := hu5
                refine lv_if_ne (tgt := 66) hx hb dX5_product_61 (by decide) (fun c_77 => ?_) (fun c_77 => ?_)
                · have kc_77 : r_67.toInt ≠ 0 := by have h9 := c_77; simp only [ge_iff_le, gt_iff_lt, x_lt, x_le, x_eq, ne_eq, Int32.not_lt, Int32.not_le] at h9; simp only [Int32.reduceToInt] at h9; omega
                  refine lv_aload_n hx hb dX5_product_66 rfl (lv_at hl 2 rfl) ?_
                  refine va_get (D := D) (ci := 4) (v := .ref (ad 60)) (C := RX5) (T := TX5) (N := 8) hx hb hts inX5 hown hK hP 0 prw_o0 rfl 1 (by decide) fl34 (fun _ h9 => h9) rfl dX5_product_67 ?_
                  refine lv_iload_n hx hb dX5_product_70 rfl (lv_at hl 0 rfl) ?_
                  refine lv_iconst (v := 0) hx hb dX5_product_71 (by decide) ?_
                  have hPs : va_P D vwCl (pgw y ad (sI (tI (sI (tI (sI (sI (sI (sI (sI (sI (sI (sI (tI (sI (tI (sI (sI (sI (sI (sI σ 36 v_kindOfFault) 37 v_bytesIntoToken) 33 v_at) 34 v_kind) 35 v_open) 71 v_number) 65 v_numbers) 72 v_code) 66 v_length) 33 n_65) 34 n_66) 36 n_68) 37 n_69) 33 n_70) 34 n_71) 35 n_72) 71 f_73) 65 n_74) 72 f_75) 66 n_76)) H := x_suP hP [2, 7, 8, 9, 10, 11, 12] rfl
                  have hDs : va_D A (pgw y ad (sI (tI (sI (tI (sI (sI (sI (sI (sI (sI (sI (sI (tI (sI (tI (sI (sI (sI (sI (sI σ 36 v_kindOfFault) 37 v_bytesIntoToken) 33 v_at) 34 v_kind) 35 v_open) 71 v_number) 65 v_numbers) 72 v_code) 66 v_length) 33 n_65) 34 n_66) 36 n_68) 37 n_69) 33 n_70) 34 n_71) 35 n_72) 71 f_73) 65 n_74) 72 f_75) 66 n_76)) := x_suD hD [2, 7, 8, 9, 10, 11, 12] rfl (by decide)
                  refine x_callvS (b1 := fun (u : (Nat → Int32) × Int32) => (prw y ad (sI (tI (sI (tI (sI (tI (sI (sI (sI (sI (sI (sI (sI (sI (tI (sI (tI (sI (sI (sI (sI (sI σ 36 v_kindOfFault) 37 v_bytesIntoToken) 33 v_at) 34 v_kind) 35 v_open) 71 v_number) 65 v_numbers) 72 v_code) 66 v_length) 33 n_65) 34 n_66) 36 n_68) 37 n_69) 33 n_70) 34 n_71) 35 n_72) 71 f_73) 65 n_74) 72 f_75) 66 n_76) 72 u.1) 66 u.2))) [2, 7, 8, 9, 10, 11, 12] (va_runV (As := [.int 8, .int 0]) (rest := []) ⟨hx, hb, hml, hown, hts⟩ (w_emit l D y H.size ad (sI (tI (sI (tI (sI (sI (sI (sI (sI (sI (sI (sI (tI (sI (tI (sI (sI (sI (sI (sI σ 36 v_kindOfFault) 37 v_bytesIntoToken) 33 v_at) 34 v_kind) 35 v_open) 71 v_number) 65 v_numbers) 72 v_code) 66 v_length) 33 n_65) 34 n_66) 36 n_68) 37 n_69) 33 n_70) 34 n_71) 35 n_72) 71 f_73) 65 n_74) 72 f_75) 66 n_76) 8 0 (show 0 ≤ (n_76).toInt from by first | omega | decide) (show (n_76).toInt ≤ 700 from by first | omega | decide)) (cwV 2 hts (goodIn_cons gCLs_1) rfl rfl rfl (by decide +kernel) ⟨by (try dsimp only); omega, by (try dsimp only); omega⟩) (x_preV (q := (RX6, TX6, 13)) hK hPs hDs (ci := 5) (q0 := 0) rfl pgw_o0) rfl rfl hl.1 rfl (lv_room (Nat.le_of_ble_eq_true rfl)) dX5_product_72 ⟨Nat.le_of_ble_eq_true rfl, Nat.le_of_ble_eq_true rfl⟩) hP hD hS hA rfl (fun _ => rfl) (fun _ => rfl) (fun _ => rfl) (fun u H locs hw hP hD hS => ?_)
                  obtain ⟨f_78, n_79⟩ := u
                  try dsimp only at hw
                  have hP : va_P D vwCl (prw y ad (sI (tI (sI (tI (sI (tI (sI (sI (sI (sI (sI (sI (sI (sI (tI (sI (tI (sI (sI (sI (sI (sI σ 36 v_kindOfFault) 37 v_bytesIntoToken) 33 v_at) 34 v_kind) 35 v_open) 71 v_number) 65 v_numbers) 72 v_code) 66 v_length) 33 n_65) 34 n_66) 36 n_68) 37 n_69) 33 n_70) 34 n_71) 35 n_72) 71 f_73) 65 n_74) 72 f_75) 66 n_76) 72 f_78) 66 n_79)) H := hP
                  have hD : va_D A (prw y ad (sI (tI (sI (tI (sI (tI (sI (sI (sI (sI (sI (sI (sI (sI (tI (sI (tI (sI (sI (sI (sI (sI σ 36 v_kindOfFault) 37 v_bytesIntoToken) 33 v_at) 34 v_kind) 35 v_open) 71 v_number) 65 v_numbers) 72 v_code) 66 v_length) 33 n_65) 34 n_66) 36 n_68) 37 n_69) 33 n_70) 34 n_71) 35 n_72) 71 f_73) 65 n_74) 72 f_75) 66 n_76) 72 f_78) 66 n_79)) := hD
                  replace hw : 0 ≤ n_79.toInt ∧ n_79.toInt ≤ 700 := hw
                  obtain ⟨i_80, ei_80⟩ : ∃ z9 : Int32, z9 = i + 1 := ⟨_, rfl⟩
                  have vi_80 : i_80.toInt = i.toInt + 1 := by have h9 := x_add ei_80 (by omega) (by omega); omega
                  refine lv_iinc (v := i_80) (lv' := [(1, .int i_80), (2, .int 8), (0, .ref (ad 30))]) hx hb dX5_product_75 hl (k := 1) rfl (by rw [ei_80]; rfl) (by decide) rfl (fun ls hl => ?_)
                  refine lv_goto (tgt := 11) hx hb dX5_product_78 (by decide) ?_
                  have hP : va_P D vwCl (prw y ad (sI (tI (sI (tI (sI (sI (sI (sI (sI σ 36 n_68) 37 n_69) 33 n_70) 34 n_71) 35 n_72) 71 f_73) 65 n_74) 72 f_78) 66 n_79)) H := hP
                  have hD : va_D A (prw y ad (sI (tI (sI (tI (sI (sI (sI (sI (sI σ 36 n_68) 37 n_69) 33 n_70) 34 n_71) 35 n_72) 71 f_73) 65 n_74) 72 f_78) 66 n_79)) := hD
                  exact ih_loop i_80 n_68 n_69 n_70 n_71 n_72 f_73 n_74 f_78 n_79 H locs ls (by omega) (by omega) (by omega) (by omega) (by omega) (by omega) (by omega) (by omega) hP hD hS (lv_sub hl [0, 2] rfl)
                · have kc_77 : r_67.toInt = 0 := by have h9 := c_77; simp only [ge_iff_le, gt_iff_lt, x_lt, x_le, x_eq, ne_eq, Int32.not_lt, Int32.not_le] at h9; simp only [Int32.reduceToInt] at h9; omega
                  refine lv_iconst (v := 0) hx hb dX5_product_64 (by decide) ?_
                  have hP : va_P D vwCl (prw y ad (sI (tI (sI (tI (sI (sI (sI (sI (sI σ 36 n_68) 37 n_69) 33 n_70) 34 n_71) 35 n_72) 71 f_73) 65 n_74) 72 f_75) 66 n_76)) H := hP
                  have hD : va_D A (prw y ad (sI (tI (sI (tI (sI (sI (sI (sI (sI σ 36 n_68) 37 n_69) 33 n_70) 34 n_71) 35 n_72) 71 f_73) 65 n_74) 72 f_75) 66 n_76)) := hD
                  exact x_zretW (v := 0) (u := (n_68, n_69, n_70, n_71, n_72, f_73, n_74, f_75, n_76)) hx hb hr hQ rfl (by (try dsimp only); exact ⟨by omega, by omega, by omega, by omega, by omega, by omega, by first | decide | omega, by first | omega | exact fun h9 => absurd h9 (by decide)⟩) hP hD hK hS dX5_product_65 hlocks
    exact loop 701 0 n_2 n_3 n_4 n_5 n_6 f_7 n_8 f_9 n_10 H locs ls (by decide) (by decide) (by omega) (by omega) (by omega) (by omega) (by omega) (by omega) hP hD hS (lv_sub hl [0, 1] rfl)
  · have kc_11 : r_1.toInt = 0 := by have h9 := c_11; simp only [ge_iff_le, gt_iff_lt, x_lt, x_le, x_eq, ne_eq, Int32.not_lt, Int32.not_le] at h9; simp only [Int32.reduceToInt] at h9; omega
    refine lv_iconst (v := 0) hx hb dX5_product_7 (by decide) ?_
    exact x_zretW (v := 0) (u := (n_2, n_3, n_4, n_5, n_6, f_7, n_8, f_9, n_10)) hx hb hr hQ rfl (by (try dsimp only); exact ⟨by omega, by omega, by omega, by omega, by omega, by omega, by first | decide | omega, by first | omega | exact fun h9 => absurd h9 (by decide)⟩) hP hD hK hS dX5_product_8 hlocks

set_option maxHeartbeats 4000000 in
set_option maxRecDepth 100000 in
theorem z_sumR (l : Launch) (D : va_G) (y : Nat → ClassId) (sz : Nat) (ad : Nat → Nat) (σ : OS) (d : Nat) (ihs : ∀ e : Nat, d = e + 1 → C_sum e) (hdp : 8 - (σ.1 35).toInt ≤ (d : Int)) (hopen0 : 0 ≤ (σ.1 35).toInt) (hopen1 : (σ.1 35).toInt ≤ 8) (htcount0 : 0 ≤ (σ.1 45).toInt) (htcount1 : (σ.1 45).toInt ≤ 700) (hlength0 : 0 ≤ (σ.1 66).toInt) (hlength1 : (σ.1 66).toInt ≤ 700) (hnumbers0 : 0 ≤ (σ.1 65).toInt) (hnumbers1 : (σ.1 65).toInt ≤ 350) (hnames0 : 0 ≤ (σ.1 68).toInt) (hnames1 : (σ.1 68).toInt ≤ 24) : Met l yX5_sum v_z_sumR ({ frames := 5 * d + 20, cells := 0, slots := 0, locals := 150 * d + 600 } : Room) (va_Pc [.ref (ad 30)] (xPre D (xT y) (prw y ad σ) sz)) (va_Qi (fun (r : Int32) (u : Int32 × Int32 × Int32 × Int32 × Int32 × (Nat → Int32) × Int32 × (Nat → Int32) × Int32) => 0 ≤ u.2.2.2.2.1.toInt ∧ u.2.2.2.2.1.toInt ≤ 8 ∧ 0 ≤ u.2.2.2.2.2.2.2.2.toInt ∧ u.2.2.2.2.2.2.2.2.toInt ≤ 700 ∧ 0 ≤ u.2.2.2.2.2.2.1.toInt ∧ u.2.2.2.2.2.2.1.toInt ≤ 350 ∧ (r.toInt = 0 ∨ r.toInt = 1) ∧ (r.toInt = 1 → u.2.2.2.2.1.toInt = (σ.1 35).toInt)) (fun (u : Int32 × Int32 × Int32 × Int32 × Int32 × (Nat → Int32) × Int32 × (Nat → Int32) × Int32) => xB D (xT y) (va_A (prw y ad σ) sz) (prw y ad (sI (tI (sI (tI (sI (sI (sI (sI (sI σ 36 u.1) 37 u.2.1) 33 u.2.2.1) 34 u.2.2.2.1) 35 u.2.2.2.2.1) 71 u.2.2.2.2.2.1) 65 u.2.2.2.2.2.2.1) 72 u.2.2.2.2.2.2.2.1) 66 u.2.2.2.2.2.2.2.2))) (va_A (prw y ad σ) sz)) 0 0 (va_A (prw y ad σ) sz) := by
  refine x_meti (cc := cX5_sum) (maxL := 3) (by decide) rfl (Nat.le_of_ble_eq_true rfl) ?_
  intro p e s m below meth c A H locs Q hx hb hml hown hts hr hlocks hmn hA hP hK hD hS ls hl hQ
  have hl : lv_has ls 3 [(0, .ref (ad 30))] := hl
  have kk_0 : (0 : Int32).toInt = 0 := rfl
  have kk_700 : (700 : Int32).toInt = 700 := rfl
  have kk_1 : (1 : Int32).toInt = 1 := rfl
  have fl45 := hts (.fieldLink RX5 45 "SlopeRunner$Parser" "kind" "I") (List.mem_of_getElem? (i := 6) rfl)
  have inX5 : ∀ w ∈ wsX50, w ∈ v_z_sumR := (fun w h => List.mem_cons_of_mem _ (List.mem_append_right _ (List.mem_append_right _ (List.mem_append_right _ (List.mem_append_right _ (List.mem_append_right _ (List.mem_append_right _ (List.mem_append_right _ (List.mem_append_right _ (List.mem_append_right _ h))))))))))
  have kk_43 : (43 : Int32).toInt = 43 := rfl
  have fl34 := hts (.fieldLink RX5 34 "SlopeRunner$Parser" "into" "LSlopeRunner$Program;") (List.mem_of_getElem? (i := 7) rfl)
  have kk_7 : (7 : Int32).toInt = 7 := rfl
  have kk_6 : (6 : Int32).toInt = 6 := rfl
  have kk_45 : (45 : Int32).toInt = 45 := rfl
  refine lv_aload_n hx hb dX5_sum_0 rfl (lv_at hl 0 rfl) ?_
  refine x_calliW (va_runV (As := []) (rest := []) ⟨hx, hb, hml, hown, hts⟩ (z_productR l D y H.size ad σ d ihs (show 8 - ((σ.1 35)).toInt ≤ (d : Int) from by first | omega | decide) (show 0 ≤ ((σ.1 35)).toInt from by first | omega | decide) (show ((σ.1 35)).toInt ≤ 8 from by first | omega | decide) (show 0 ≤ ((σ.1 45)).toInt from by first | omega | decide) (show ((σ.1 45)).toInt ≤ 700 from by first | omega | decide) (show 0 ≤ ((σ.1 66)).toInt from by first | omega | decide) (show ((σ.1 66)).toInt ≤ 700 from by first | omega | decide) (show 0 ≤ ((σ.1 65)).toInt from by first | omega | decide) (show ((σ.1 65)).toInt ≤ 350 from by first | omega | decide) (show 0 ≤ ((σ.1 68)).toInt from by first | omega | decide) (show ((σ.1 68)).toInt ≤ 24 from by first | omega | decide)) (cwV 0 hts (goodIn_cl hCLs (List.mem_of_getElem? (i := 0) rfl) (List.mem_of_getElem? (i := 1) rfl) (List.mem_of_getElem? (i := 2) rfl) (List.mem_of_getElem? (i := 3) rfl) (List.mem_of_getElem? (i := 4) rfl)) rfl rfl rfl (by decide +kernel) ⟨by (try dsimp only); omega, by (try dsimp only); omega⟩) (x_preV (q := (RX5, TX5, 8)) hK hP hD (ci := 4) (q0 := 0) rfl prw_o0) rfl rfl hl.1 rfl (lv_room (Nat.le_of_ble_eq_true rfl)) dX5_sum_1 ⟨Nat.le_of_ble_eq_true rfl, Nat.le_of_ble_eq_true rfl⟩) hP hD hS hA (fun r_1 u H locs hw hP hD hS => ?_)
  obtain ⟨n_2, n_3, n_4, n_5, n_6, f_7, n_8, f_9, n_10⟩ := u
  try dsimp only at hw
  have hP : va_P D vwCl (prw y ad (sI (tI (sI (tI (sI (sI (sI (sI (sI σ 36 n_2) 37 n_3) 33 n_4) 34 n_5) 35 n_6) 71 f_7) 65 n_8) 72 f_9) 66 n_10)) H := hP
  have hD : va_D A (prw y ad (sI (tI (sI (tI (sI (sI (sI (sI (sI σ 36 n_2) 37 n_3) 33 n_4) 34 n_5) 35 n_6) 71 f_7) 65 n_8) 72 f_9) 66 n_10)) := hD
  replace hw : 0 ≤ n_6.toInt ∧ n_6.toInt ≤ 8 ∧ 0 ≤ n_10.toInt ∧ n_10.toInt ≤ 700 ∧ 0 ≤ n_8.toInt ∧ n_8.toInt ≤ 350 ∧ (r_1.toInt = 0 ∨ r_1.toInt = 1) ∧ (r_1.toInt = 1 → n_6.toInt = ((σ.1 35)).toInt) := hw
  obtain ⟨ho1, hp1, hq1, hr1, hs1, ht1, hu1, hv1⟩ := hw
  have hw := hu1
  refine lv_if_ne (tgt := 9) hx hb dX5_sum_4 (by decide) (fun c_11 => ?_) (fun c_11 => ?_)
  · have kc_11 : r_1.toInt ≠ 0 := by have h9 := c_11; simp only [ge_iff_le, gt_iff_lt, x_lt, x_le, x_eq, ne_eq, Int32.not_lt, Int32.not_le] at h9; simp only [Int32.reduceToInt] at h9; omega
    refine lv_iconst (v := 0) hx hb dX5_sum_9 (by decide) ?_
    refine lv_istore_n (lv' := [(1, .int 0), (0, .ref (ad 30))]) hx hb dX5_sum_10 rfl hl (by decide) rfl (fun ls hl => ?_)
    have l00 : (0 : Int32).toInt = 0 := rfl
    have loop : ∀ (fu : Nat) (i : Int32) (v_kindOfFault : Int32) (v_bytesIntoToken : Int32) (v_at : Int32) (v_kind : Int32) (v_open : Int32) (v_number : Nat → Int32) (v_numbers : Int32) (v_code : Nat → Int32) (v_length : Int32) (H : Heap) (locs : List Loc) (ls : Array Slot), (0 ≤ i.toInt) → (i.toInt ≤ 700) → (v_open.toInt = (σ.1 35).toInt) → (0 ≤ v_length.toInt) → (v_length.toInt ≤ 700) → (0 ≤ v_numbers.toInt) → (v_numbers.toInt ≤ 350) → (700 - i.toInt < (fu : Int)) → va_P D vwCl (prw y ad (sI (tI (sI (tI (sI (sI (sI (sI (sI σ 36 v_kindOfFault) 37 v_bytesIntoToken) 33 v_at) 34 v_kind) 35 v_open) 71 v_number) 65 v_numbers) 72 v_code) 66 v_length)) H → va_D A (prw y ad (sI (tI (sI (tI (sI (sI (sI (sI (sI σ 36 v_kindOfFault) 37 v_bytesIntoToken) 33 v_at) 34 v_kind) 35 v_open) 71 v_number) 65 v_numbers) 72 v_code) 66 v_length)) → va_S A s.heap H locs → lv_has ls 3 [(1, .int i), (0, .ref (ad 30))] → W p l e ({ frames := 5 * d + 20, cells := 0, slots := 0, locals := 150 * d + 600 } : Room) s m ([.ref (ad 30)] : List Value).toArray below meth c H locs 0 0 Q (F0 m 11 ls []) := by
      intro fu
      induction fu with
      | zero =>
        intro i v_kindOfFault v_bytesIntoToken v_at v_kind v_open v_number v_numbers v_code v_length H locs ls hi0 hi1 hop hvlength0 hvlength1 hvnumbers0 hvnumbers1 hm
        exact absurd hm (by omega)
      | succ fu ih_loop =>
        intro i v_kindOfFault v_bytesIntoToken v_at v_kind v_open v_number v_numbers v_code v_length H locs ls hi0 hi1 hop hvlength0 hvlength1 hvnumbers0 hvnumbers1 hm hP hD hS hl
        refine lv_iload_n hx hb dX5_sum_11 rfl (lv_at hl 0 rfl) ?_
        refine lv_sipush (v := 700) hx hb dX5_sum_12 (by decide) ?_
        refine lv_icmp_ge (tgt := 81) hx hb dX5_sum_15 (by decide) (fun c_12 => ?_) (fun c_12 => ?_)
        · have kc_12 : i.toInt ≥ 700 := by have h9 := c_12; simp only [ge_iff_le, gt_iff_lt, x_lt, x_le, x_eq, ne_eq, Int32.not_lt, Int32.not_le] at h9; simp only [Int32.reduceToInt] at h9; omega
          refine lv_iconst (v := 1) hx hb dX5_sum_81 (by decide) ?_
          exact x_zretW (v := 1) (u := (v_kindOfFault, v_bytesIntoToken, v_at, v_kind, v_open, v_number, v_numbers, v_code, v_length)) hx hb hr hQ rfl (by (try dsimp only); exact ⟨by omega, by omega, by omega, by omega, by omega, by omega, by first | decide | omega, by first | omega | exact fun h9 => absurd h9 (by decide)⟩) hP hD hK hS dX5_sum_82 hlocks
        · have kc_12 : i.toInt < 700 := by have h9 := c_12; simp only [ge_iff_le, gt_iff_lt, x_lt, x_le, x_eq, ne_eq, Int32.not_lt, Int32.not_le] at h9; simp only [Int32.reduceToInt] at h9; omega
          refine lv_aload_n hx hb dX5_sum_18 rfl (lv_at hl 1 rfl) ?_
          refine va_get (D := D) (ci := 4) (v := .int v_kind) (C := RX5) (T := TX5) (N := 8) hx hb hts inX5 hown hK hP 0 prw_o0 rfl 3 (by decide) fl45 (fun _ h9 => h9) rfl dX5_sum_19 ?_
          refine lv_bipush (v := 43) hx hb dX5_sum_22 (by decide) ?_
          refine lv_icmp_eq (tgt := 36) hx hb dX5_sum_24 (by decide) (fun c_13 => ?_) (fun c_13 => ?_)
          · have kc_13 : v_kind.toInt = 43 := by have h9 := c_13; simp only [ge_iff_le, gt_iff_lt, x_lt, x_le, x_eq, ne_eq, Int32.not_lt, Int32.not_le] at h9; simp only [Int32.reduceToInt] at h9; omega
            refine lv_aload_n hx hb dX5_sum_36 rfl (lv_at hl 1 rfl) ?_
            refine va_get (D := D) (ci := 4) (v := .int v_kind) (C := RX5) (T := TX5) (N := 8) hx hb hts inX5 hown hK hP 0 prw_o0 rfl 3 (by decide) fl45 (fun _ h9 => h9) rfl dX5_sum_37 ?_
            refine lv_bipush (v := 43) hx hb dX5_sum_40 (by decide) ?_
            refine lv_icmp_ne (tgt := 50) hx hb dX5_sum_42 (by decide) (fun c_14 => ?_) (fun c_14 => ?_)
            · have kc_14 : v_kind.toInt ≠ 43 := by have h9 := c_14; simp only [ge_iff_le, gt_iff_lt, x_lt, x_le, x_eq, ne_eq, Int32.not_lt, Int32.not_le] at h9; simp only [Int32.reduceToInt] at h9; omega
              refine lv_bipush (v := 7) hx hb dX5_sum_50 (by decide) ?_
              refine lv_istore_n (lv' := [(2, .int 7), (1, .int i), (0, .ref (ad 30))]) hx hb dX5_sum_52 rfl hl (by decide) rfl (fun ls hl => ?_)
              refine lv_aload_n hx hb dX5_sum_53 rfl (lv_at hl 2 rfl) ?_
              refine x_callvW (va_runV (As := []) (rest := []) ⟨hx, hb, hml, hown, hts⟩ (z_pass l D y H.size ad (sI (tI (sI (tI (sI (sI (sI (sI (sI σ 36 v_kindOfFault) 37 v_bytesIntoToken) 33 v_at) 34 v_kind) 35 v_open) 71 v_number) 65 v_numbers) 72 v_code) 66 v_length) (show 0 ≤ ((σ.1 45)).toInt from by first | omega | decide) (show ((σ.1 45)).toInt ≤ 700 from by first | omega | decide)) (cwV 0 hts (goodIn_cons gCLs_0) rfl rfl rfl (by decide +kernel) ⟨by (try dsimp only); omega, by (try dsimp only); omega⟩) (x_preV (q := (RX5, TX5, 8)) hK hP hD (ci := 4) (q0 := 0) rfl prw_o0) rfl rfl hl.1 rfl (lv_room (Nat.le_of_ble_eq_true rfl)) dX5_sum_54 ⟨Nat.le_of_ble_eq_true rfl, Nat.le_of_ble_eq_true rfl⟩) hP hD hS hA (fun u H locs hw hP hD hS => ?_)
              obtain ⟨n_15, n_16⟩ := u
              try dsimp only at hw
              have hP : va_P D vwCl (prw y ad (sI (sI (sI (tI (sI (tI (sI (sI (sI (sI (sI σ 36 v_kindOfFault) 37 v_bytesIntoToken) 33 v_at) 34 v_kind) 35 v_open) 71 v_number) 65 v_numbers) 72 v_code) 66 v_length) 33 n_15) 34 n_16)) H := hP
              have hD : va_D A (prw y ad (sI (sI (sI (tI (sI (tI (sI (sI (sI (sI (sI σ 36 v_kindOfFault) 37 v_bytesIntoToken) 33 v_at) 34 v_kind) 35 v_open) 71 v_number) 65 v_numbers) 72 v_code) 66 v_length) 33 n_15) 34 n_16)) := hD
              replace hw : True := hw
              refine lv_aload_n hx hb dX5_sum_57 rfl (lv_at hl 2 rfl) ?_
              refine x_calliW (va_runV (As := []) (rest := []) ⟨hx, hb, hml, hown, hts⟩ (z_productR l D y H.size ad (sI (sI (sI (tI (sI (tI (sI (sI (sI (sI (sI σ 36 v_kindOfFault) 37 v_bytesIntoToken) 33 v_at) 34 v_kind) 35 v_open) 71 v_number) 65 v_numbers) 72 v_code) 66 v_length) 33 n_15) 34 n_16) d ihs (show 8 - (v_open).toInt ≤ (d : Int) from by first | omega | decide) (show 0 ≤ (v_open).toInt from by first | omega | decide) (show (v_open).toInt ≤ 8 from by first | omega | decide) (show 0 ≤ ((σ.1 45)).toInt from by first | omega | decide) (show ((σ.1 45)).toInt ≤ 700 from by first | omega | decide) (show 0 ≤ (v_length).toInt from by first | omega | decide) (show (v_length).toInt ≤ 700 from by first | omega | decide) (show 0 ≤ (v_numbers).toInt from by first | omega | decide) (show (v_numbers).toInt ≤ 350 from by first | omega | decide) (show 0 ≤ ((σ.1 68)).toInt from by first | omega | decide) (show ((σ.1 68)).toInt ≤ 24 from by first | omega | decide)) (cwV 0 hts (goodIn_cl hCLs (List.mem_of_getElem? (i := 0) rfl) (List.mem_of_getElem? (i := 1) rfl) (List.mem_of_getElem? (i := 2) rfl) (List.mem_of_getElem? (i := 3) rfl) (List.mem_of_getElem? (i := 4) rfl)) rfl rfl rfl (by decide +kernel) ⟨by (try dsimp only); omega, by (try dsimp only); omega⟩) (x_preV (q := (RX5, TX5, 8)) hK hP hD (ci := 4) (q0 := 0) rfl prw_o0) rfl rfl hl.1 rfl (lv_room (Nat.le_of_ble_eq_true rfl)) dX5_sum_58 ⟨Nat.le_of_ble_eq_true rfl, Nat.le_of_ble_eq_true rfl⟩) hP hD hS hA (fun r_17 u H locs hw hP hD hS => ?_)
              obtain ⟨n_18, n_19, n_20, n_21, n_22, f_23, n_24, f_25, n_26⟩ := u
              try dsimp only at hw
              have hP : va_P D vwCl (prw y ad (sI (tI (sI (tI (sI (sI (sI (sI (sI (sI (sI (sI (tI (sI (tI (sI (sI (sI (sI (sI σ 36 v_kindOfFault) 37 v_bytesIntoToken) 33 v_at) 34 v_kind) 35 v_open) 71 v_number) 65 v_numbers) 72 v_code) 66 v_length) 33 n_15) 34 n_16) 36 n_18) 37 n_19) 33 n_20) 34 n_21) 35 n_22) 71 f_23) 65 n_24) 72 f_25) 66 n_26)) H := hP
              have hD : va_D A (prw y ad (sI (tI (sI (tI (sI (sI (sI (sI (sI (sI (sI (sI (tI (sI (tI (sI (sI (sI (sI (sI σ 36 v_kindOfFault) 37 v_bytesIntoToken) 33 v_at) 34 v_kind) 35 v_open) 71 v_number) 65 v_numbers) 72 v_code) 66 v_length) 33 n_15) 34 n_16) 36 n_18) 37 n_19) 33 n_20) 34 n_21) 35 n_22) 71 f_23) 65 n_24) 72 f_25) 66 n_26)) := hD
              replace hw : 0 ≤ n_22.toInt ∧ n_22.toInt ≤ 8 ∧ 0 ≤ n_26.toInt ∧ n_26.toInt ≤ 700 ∧ 0 ≤ n_24.toInt ∧ n_24.toInt ≤ 350 ∧ (r_17.toInt = 0 ∨ r_17.toInt = 1) ∧ (r_17.toInt = 1 → n_22.toInt = (v_open).toInt) := hw
              obtain ⟨ho2, hp2, hq2, hr2, hs2, ht2, hu2, hv2⟩ := hw
              have hw := hu2
              refine lv_if_ne (tgt := 66) hx hb dX5_sum_61 (by decide) (fun c_27 => ?_) (fun c_27 => ?_)
              · have kc_27 : r_17.toInt ≠ 0 := by have h9 := c_27; simp only [ge_iff_le, gt_iff_lt, x_lt, x_le, x_eq, ne_eq, Int32.not_lt, Int32.not_le] at h9; simp only [Int32.reduceToInt] at h9; omega
                refine lv_aload_n hx hb dX5_sum_66 rfl (lv_at hl 2 rfl) ?_
                refine va_get (D := D) (ci := 4) (v := .ref (ad 60)) (C := RX5) (T := TX5) (N := 8) hx hb hts inX5 hown hK hP 0 prw_o0 rfl 1 (by decide) fl34 (fun _ h9 => h9) rfl dX5_sum_67 ?_
                refine lv_iload_n hx hb dX5_sum_70 rfl (lv_at hl 0 rfl) ?_
                refine lv_iconst (v := 0) hx hb dX5_sum_71 (by decide) ?_
                have hPs : va_P D vwCl (pgw y ad (sI (tI (sI (tI (sI (sI (sI (sI (sI (sI (sI (sI (tI (sI (tI (sI (sI (sI (sI (sI σ 36 v_kindOfFault) 37 v_bytesIntoToken) 33 v_at) 34 v_kind) 35 v_open) 71 v_number) 65 v_numbers) 72 v_code) 66 v_length) 33 n_15) 34 n_16) 36 n_18) 37 n_19) 33 n_20) 34 n_21) 35 n_22) 71 f_23) 65 n_24) 72 f_25) 66 n_26)) H := x_suP hP [2, 7, 8, 9, 10, 11, 12] rfl
                have hDs : va_D A (pgw y ad (sI (tI (sI (tI (sI (sI (sI (sI (sI (sI (sI (sI (tI (sI (tI (sI (sI (sI (sI (sI σ 36 v_kindOfFault) 37 v_bytesIntoToken) 33 v_at) 34 v_kind) 35 v_open) 71 v_number) 65 v_numbers) 72 v_code) 66 v_length) 33 n_15) 34 n_16) 36 n_18) 37 n_19) 33 n_20) 34 n_21) 35 n_22) 71 f_23) 65 n_24) 72 f_25) 66 n_26)) := x_suD hD [2, 7, 8, 9, 10, 11, 12] rfl (by decide)
                refine x_callvS (b1 := fun (u : (Nat → Int32) × Int32) => (prw y ad (sI (tI (sI (tI (sI (tI (sI (sI (sI (sI (sI (sI (sI (sI (tI (sI (tI (sI (sI (sI (sI (sI σ 36 v_kindOfFault) 37 v_bytesIntoToken) 33 v_at) 34 v_kind) 35 v_open) 71 v_number) 65 v_numbers) 72 v_code) 66 v_length) 33 n_15) 34 n_16) 36 n_18) 37 n_19) 33 n_20) 34 n_21) 35 n_22) 71 f_23) 65 n_24) 72 f_25) 66 n_26) 72 u.1) 66 u.2))) [2, 7, 8, 9, 10, 11, 12] (va_runV (As := [.int 7, .int 0]) (rest := []) ⟨hx, hb, hml, hown, hts⟩ (w_emit l D y H.size ad (sI (tI (sI (tI (sI (sI (sI (sI (sI (sI (sI (sI (tI (sI (tI (sI (sI (sI (sI (sI σ 36 v_kindOfFault) 37 v_bytesIntoToken) 33 v_at) 34 v_kind) 35 v_open) 71 v_number) 65 v_numbers) 72 v_code) 66 v_length) 33 n_15) 34 n_16) 36 n_18) 37 n_19) 33 n_20) 34 n_21) 35 n_22) 71 f_23) 65 n_24) 72 f_25) 66 n_26) 7 0 (show 0 ≤ (n_26).toInt from by first | omega | decide) (show (n_26).toInt ≤ 700 from by first | omega | decide)) (cwV 2 hts (goodIn_cons gCLs_1) rfl rfl rfl (by decide +kernel) ⟨by (try dsimp only); omega, by (try dsimp only); omega⟩) (x_preV (q := (RX6, TX6, 13)) hK hPs hDs (ci := 5) (q0 := 0) rfl pgw_o0) rfl rfl hl.1 rfl (lv_room (Nat.le_of_ble_eq_true rfl)) dX5_sum_72 ⟨Nat.le_of_ble_eq_true rfl, Nat.le_of_ble_eq_true rfl⟩) hP hD hS hA rfl (fun _ => rfl) (fun _ => rfl) (fun _ => rfl) (fun u H locs hw hP hD hS => ?_)
                obtain ⟨f_28, n_29⟩ := u
                try dsimp only at hw
                have hP : va_P D vwCl (prw y ad (sI (tI (sI (tI (sI (tI (sI (sI (sI (sI (sI (sI (sI (sI (tI (sI (tI (sI (sI (sI (sI (sI σ 36 v_kindOfFault) 37 v_bytesIntoToken) 33 v_at) 34 v_kind) 35 v_open) 71 v_number) 65 v_numbers) 72 v_code) 66 v_length) 33 n_15) 34 n_16) 36 n_18) 37 n_19) 33 n_20) 34 n_21) 35 n_22) 71 f_23) 65 n_24) 72 f_25) 66 n_26) 72 f_28) 66 n_29)) H := hP
                have hD : va_D A (prw y ad (sI (tI (sI (tI (sI (tI (sI (sI (sI (sI (sI (sI (sI (sI (tI (sI (tI (sI (sI (sI (sI (sI σ 36 v_kindOfFault) 37 v_bytesIntoToken) 33 v_at) 34 v_kind) 35 v_open) 71 v_number) 65 v_numbers) 72 v_code) 66 v_length) 33 n_15) 34 n_16) 36 n_18) 37 n_19) 33 n_20) 34 n_21) 35 n_22) 71 f_23) 65 n_24) 72 f_25) 66 n_26) 72 f_28) 66 n_29)) := hD
                replace hw : 0 ≤ n_29.toInt ∧ n_29.toInt ≤ 700 := hw
                obtain ⟨i_30, ei_30⟩ : ∃ z9 : Int32, z9 = i + 1 := ⟨_, rfl⟩
                have vi_30 : i_30.toInt = i.toInt + 1 := by have h9 := x_add ei_30 (by omega) (by omega); omega
                refine lv_iinc (v := i_30) (lv' := [(1, .int i_30), (2, .int 7), (0, .ref (ad 30))]) hx hb dX5_sum_75 hl (k := 1) rfl (by rw [ei_30]; rfl) (by decide) rfl (fun ls hl => ?_)
                refine lv_goto (tgt := 11) hx hb dX5_sum_78 (by decide) ?_
                have hP : va_P D vwCl (prw y ad (sI (tI (sI (tI (sI (sI (sI (sI (sI σ 36 n_18) 37 n_19) 33 n_20) 34 n_21) 35 n_22) 71 f_23) 65 n_24) 72 f_28) 66 n_29)) H := hP
                have hD : va_D A (prw y ad (sI (tI (sI (tI (sI (sI (sI (sI (sI σ 36 n_18) 37 n_19) 33 n_20) 34 n_21) 35 n_22) 71 f_23) 65 n_24) 72 f_28) 66 n_29)) := hD
                exact ih_loop i_30 n_18 n_19 n_20 n_21 n_22 f_23 n_24 f_28 n_29 H locs ls (by omega) (by omega) (by omega) (by omega) (by omega) (by omega) (by omega) (by omega) hP hD hS (lv_sub hl [0, 2] rfl)
              · have kc_27 : r_17.toInt = 0 := by have h9 := c_27; simp only [ge_iff_le, gt_iff_lt, x_lt, x_le, x_eq, ne_eq, Int32.not_lt, Int32.not_le] at h9; simp only [Int32.reduceToInt] at h9; omega
                refine lv_iconst (v := 0) hx hb dX5_sum_64 (by decide) ?_
                have hP : va_P D vwCl (prw y ad (sI (tI (sI (tI (sI (sI (sI (sI (sI σ 36 n_18) 37 n_19) 33 n_20) 34 n_21) 35 n_22) 71 f_23) 65 n_24) 72 f_25) 66 n_26)) H := hP
                have hD : va_D A (prw y ad (sI (tI (sI (tI (sI (sI (sI (sI (sI σ 36 n_18) 37 n_19) 33 n_20) 34 n_21) 35 n_22) 71 f_23) 65 n_24) 72 f_25) 66 n_26)) := hD
                exact x_zretW (v := 0) (u := (n_18, n_19, n_20, n_21, n_22, f_23, n_24, f_25, n_26)) hx hb hr hQ rfl (by (try dsimp only); exact ⟨by omega, by omega, by omega, by omega, by omega, by omega, by first | decide | omega, by first | omega | exact fun h9 => absurd h9 (by decide)⟩) hP hD hK hS dX5_sum_65 hlocks
            · have kc_14 : v_kind.toInt = 43 := by have h9 := c_14; simp only [ge_iff_le, gt_iff_lt, x_lt, x_le, x_eq, ne_eq, Int32.not_lt, Int32.not_le] at h9; simp only [Int32.reduceToInt] at h9; omega
              refine lv_bipush (v := 6) hx hb dX5_sum_45 (by decide) ?_
              refine lv_goto (tgt := 52) hx hb dX5_sum_47 (by decide) ?_
              refine lv_istore_n (lv' := [(2, .int 6), (1, .int i), (0, .ref (ad 30))]) hx hb dX5_sum_52 rfl hl (by decide) rfl (fun ls hl => ?_)
              refine lv_aload_n hx hb dX5_sum_53 rfl (lv_at hl 2 rfl) ?_
              refine x_callvW (va_runV (As := []) (rest := []) ⟨hx, hb, hml, hown, hts⟩ (z_pass l D y H.size ad (sI (tI (sI (tI (sI (sI (sI (sI (sI σ 36 v_kindOfFault) 37 v_bytesIntoToken) 33 v_at) 34 v_kind) 35 v_open) 71 v_number) 65 v_numbers) 72 v_code) 66 v_length) (show 0 ≤ ((σ.1 45)).toInt from by first | omega | decide) (show ((σ.1 45)).toInt ≤ 700 from by first | omega | decide)) (cwV 0 hts (goodIn_cons gCLs_0) rfl rfl rfl (by decide +kernel) ⟨by (try dsimp only); omega, by (try dsimp only); omega⟩) (x_preV (q := (RX5, TX5, 8)) hK hP hD (ci := 4) (q0 := 0) rfl prw_o0) rfl rfl hl.1 rfl (lv_room (Nat.le_of_ble_eq_true rfl)) dX5_sum_54 ⟨Nat.le_of_ble_eq_true rfl, Nat.le_of_ble_eq_true rfl⟩) hP hD hS hA (fun u H locs hw hP hD hS => ?_)
              obtain ⟨n_31, n_32⟩ := u
              try dsimp only at hw
              have hP : va_P D vwCl (prw y ad (sI (sI (sI (tI (sI (tI (sI (sI (sI (sI (sI σ 36 v_kindOfFault) 37 v_bytesIntoToken) 33 v_at) 34 v_kind) 35 v_open) 71 v_number) 65 v_numbers) 72 v_code) 66 v_length) 33 n_31) 34 n_32)) H := hP
              have hD : va_D A (prw y ad (sI (sI (sI (tI (sI (tI (sI (sI (sI (sI (sI σ 36 v_kindOfFault) 37 v_bytesIntoToken) 33 v_at) 34 v_kind) 35 v_open) 71 v_number) 65 v_numbers) 72 v_code) 66 v_length) 33 n_31) 34 n_32)) := hD
              replace hw : True := hw
              refine lv_aload_n hx hb dX5_sum_57 rfl (lv_at hl 2 rfl) ?_
              refine x_calliW (va_runV (As := []) (rest := []) ⟨hx, hb, hml, hown, hts⟩ (z_productR l D y H.size ad (sI (sI (sI (tI (sI (tI (sI (sI (sI (sI (sI σ 36 v_kindOfFault) 37 v_bytesIntoToken) 33 v_at) 34 v_kind) 35 v_open) 71 v_number) 65 v_numbers) 72 v_code) 66 v_length) 33 n_31) 34 n_32) d ihs (show 8 - (v_open).toInt ≤ (d : Int) from by first | omega | decide) (show 0 ≤ (v_open).toInt from by first | omega | decide) (show (v_open).toInt ≤ 8 from by first | omega | decide) (show 0 ≤ ((σ.1 45)).toInt from by first | omega | decide) (show ((σ.1 45)).toInt ≤ 700 from by first | omega | decide) (show 0 ≤ (v_length).toInt from by first | omega | decide) (show (v_length).toInt ≤ 700 from by first | omega | decide) (show 0 ≤ (v_numbers).toInt from by first | omega | decide) (show (v_numbers).toInt ≤ 350 from by first | omega | decide) (show 0 ≤ ((σ.1 68)).toInt from by first | omega | decide) (show ((σ.1 68)).toInt ≤ 24 from by first | omega | decide)) (cwV 0 hts (goodIn_cl hCLs (List.mem_of_getElem? (i := 0) rfl) (List.mem_of_getElem? (i := 1) rfl) (List.mem_of_getElem? (i := 2) rfl) (List.mem_of_getElem? (i := 3) rfl) (List.mem_of_getElem? (i := 4) rfl)) rfl rfl rfl (by decide +kernel) ⟨by (try dsimp only); omega, by (try dsimp only); omega⟩) (x_preV (q := (RX5, TX5, 8)) hK hP hD (ci := 4) (q0 := 0) rfl prw_o0) rfl rfl hl.1 rfl (lv_room (Nat.le_of_ble_eq_true rfl)) dX5_sum_58 ⟨Nat.le_of_ble_eq_true rfl, Nat.le_of_ble_eq_true rfl⟩) hP hD hS hA (fun r_33 u H locs hw hP hD hS => ?_)
              obtain ⟨n_34, n_35, n_36, n_37, n_38, f_39, n_40, f_41, n_42⟩ := u
              try dsimp only at hw
              have hP : va_P D vwCl (prw y ad (sI (tI (sI (tI (sI (sI (sI (sI (sI (sI (sI (sI (tI (sI (tI (sI (sI (sI (sI (sI σ 36 v_kindOfFault) 37 v_bytesIntoToken) 33 v_at) 34 v_kind) 35 v_open) 71 v_number) 65 v_numbers) 72 v_code) 66 v_length) 33 n_31) 34 n_32) 36 n_34) 37 n_35) 33 n_36) 34 n_37) 35 n_38) 71 f_39) 65 n_40) 72 f_41) 66 n_42)) H := hP
              have hD : va_D A (prw y ad (sI (tI (sI (tI (sI (sI (sI (sI (sI (sI (sI (sI (tI (sI (tI (sI (sI (sI (sI (sI σ 36 v_kindOfFault) 37 v_bytesIntoToken) 33 v_at) 34 v_kind) 35 v_open) 71 v_number) 65 v_numbers) 72 v_code) 66 v_length) 33 n_31) 34 n_32) 36 n_34) 37 n_35) 33 n_36) 34 n_37) 35 n_38) 71 f_39) 65 n_40) 72 f_41) 66 n_42)) := hD
              replace hw : 0 ≤ n_38.toInt ∧ n_38.toInt ≤ 8 ∧ 0 ≤ n_42.toInt ∧ n_42.toInt ≤ 700 ∧ 0 ≤ n_40.toInt ∧ n_40.toInt ≤ 350 ∧ (r_33.toInt = 0 ∨ r_33.toInt = 1) ∧ (r_33.toInt = 1 → n_38.toInt = (v_open).toInt) := hw
              obtain ⟨ho3, hp3, hq3, hr3, hs3, ht3, hu3, hv3⟩ := hw
              have hw := hu3
              refine lv_if_ne (tgt := 66) hx hb dX5_sum_61 (by decide) (fun c_43 => ?_) (fun c_43 => ?_)
              · have kc_43 : r_33.toInt ≠ 0 := by have h9 := c_43; simp only [ge_iff_le, gt_iff_lt, x_lt, x_le, x_eq, ne_eq, Int32.not_lt, Int32.not_le] at h9; simp only [Int32.reduceToInt] at h9; omega
                refine lv_aload_n hx hb dX5_sum_66 rfl (lv_at hl 2 rfl) ?_
                refine va_get (D := D) (ci := 4) (v := .ref (ad 60)) (C := RX5) (T := TX5) (N := 8) hx hb hts inX5 hown hK hP 0 prw_o0 rfl 1 (by decide) fl34 (fun _ h9 => h9) rfl dX5_sum_67 ?_
                refine lv_iload_n hx hb dX5_sum_70 rfl (lv_at hl 0 rfl) ?_
                refine lv_iconst (v := 0) hx hb dX5_sum_71 (by decide) ?_
                have hPs : va_P D vwCl (pgw y ad (sI (tI (sI (tI (sI (sI (sI (sI (sI (sI (sI (sI (tI (sI (tI (sI (sI (sI (sI (sI σ 36 v_kindOfFault) 37 v_bytesIntoToken) 33 v_at) 34 v_kind) 35 v_open) 71 v_number) 65 v_numbers) 72 v_code) 66 v_length) 33 n_31) 34 n_32) 36 n_34) 37 n_35) 33 n_36) 34 n_37) 35 n_38) 71 f_39) 65 n_40) 72 f_41) 66 n_42)) H := x_suP hP [2, 7, 8, 9, 10, 11, 12] rfl
                have hDs : va_D A (pgw y ad (sI (tI (sI (tI (sI (sI (sI (sI (sI (sI (sI (sI (tI (sI (tI (sI (sI (sI (sI (sI σ 36 v_kindOfFault) 37 v_bytesIntoToken) 33 v_at) 34 v_kind) 35 v_open) 71 v_number) 65 v_numbers) 72 v_code) 66 v_length) 33 n_31) 34 n_32) 36 n_34) 37 n_35) 33 n_36) 34 n_37) 35 n_38) 71 f_39) 65 n_40) 72 f_41) 66 n_42)) := x_suD hD [2, 7, 8, 9, 10, 11, 12] rfl (by decide)
                refine x_callvS (b1 := fun (u : (Nat → Int32) × Int32) => (prw y ad (sI (tI (sI (tI (sI (tI (sI (sI (sI (sI (sI (sI (sI (sI (tI (sI (tI (sI (sI (sI (sI (sI σ 36 v_kindOfFault) 37 v_bytesIntoToken) 33 v_at) 34 v_kind) 35 v_open) 71 v_number) 65 v_numbers) 72 v_code) 66 v_length) 33 n_31) 34 n_32) 36 n_34) 37 n_35) 33 n_36) 34 n_37) 35 n_38) 71 f_39) 65 n_40) 72 f_41) 66 n_42) 72 u.1) 66 u.2))) [2, 7, 8, 9, 10, 11, 12] (va_runV (As := [.int 6, .int 0]) (rest := []) ⟨hx, hb, hml, hown, hts⟩ (w_emit l D y H.size ad (sI (tI (sI (tI (sI (sI (sI (sI (sI (sI (sI (sI (tI (sI (tI (sI (sI (sI (sI (sI σ 36 v_kindOfFault) 37 v_bytesIntoToken) 33 v_at) 34 v_kind) 35 v_open) 71 v_number) 65 v_numbers) 72 v_code) 66 v_length) 33 n_31) 34 n_32) 36 n_34) 37 n_35) 33 n_36) 34 n_37) 35 n_38) 71 f_39) 65 n_40) 72 f_41) 66 n_42) 6 0 (show 0 ≤ (n_42).toInt from by first | omega | decide) (show (n_42).toInt ≤ 700 from by first | omega | decide)) (cwV 2 hts (goodIn_cons gCLs_1) rfl rfl rfl (by decide +kernel) ⟨by (try dsimp only); omega, by (try dsimp only); omega⟩) (x_preV (q := (RX6, TX6, 13)) hK hPs hDs (ci := 5) (q0 := 0) rfl pgw_o0) rfl rfl hl.1 rfl (lv_room (Nat.le_of_ble_eq_true rfl)) dX5_sum_72 ⟨Nat.le_of_ble_eq_true rfl, Nat.le_of_ble_eq_true rfl⟩) hP hD hS hA rfl (fun _ => rfl) (fun _ => rfl) (fun _ => rfl) (fun u H locs hw hP hD hS => ?_)
                obtain ⟨f_44, n_45⟩ := u
                try dsimp only at hw
                have hP : va_P D vwCl (prw y ad (sI (tI (sI (tI (sI (tI (sI (sI (sI (sI (sI (sI (sI (sI (tI (sI (tI (sI (sI (sI (sI (sI σ 36 v_kindOfFault) 37 v_bytesIntoToken) 33 v_at) 34 v_kind) 35 v_open) 71 v_number) 65 v_numbers) 72 v_code) 66 v_length) 33 n_31) 34 n_32) 36 n_34) 37 n_35) 33 n_36) 34 n_37) 35 n_38) 71 f_39) 65 n_40) 72 f_41) 66 n_42) 72 f_44) 66 n_45)) H := hP
                have hD : va_D A (prw y ad (sI (tI (sI (tI (sI (tI (sI (sI (sI (sI (sI (sI (sI (sI (tI (sI (tI (sI (sI (sI (sI (sI σ 36 v_kindOfFault) 37 v_bytesIntoToken) 33 v_at) 34 v_kind) 35 v_open) 71 v_number) 65 v_numbers) 72 v_code) 66 v_length) 33 n_31) 34 n_32) 36 n_34) 37 n_35) 33 n_36) 34 n_37) 35 n_38) 71 f_39) 65 n_40) 72 f_41) 66 n_42) 72 f_44) 66 n_45)) := hD
                replace hw : 0 ≤ n_45.toInt ∧ n_45.toInt ≤ 700 := hw
                obtain ⟨i_46, ei_46⟩ : ∃ z9 : Int32, z9 = i + 1 := ⟨_, rfl⟩
                have vi_46 : i_46.toInt = i.toInt + 1 := by have h9 := x_add ei_46 (by omega) (by omega); omega
                refine lv_iinc (v := i_46) (lv' := [(1, .int i_46), (2, .int 6), (0, .ref (ad 30))]) hx hb dX5_sum_75 hl (k := 1) rfl (by rw [ei_46]; rfl) (by decide) rfl (fun ls hl => ?_)
                refine lv_goto (tgt := 11) hx hb dX5_sum_78 (by decide) ?_
                have hP : va_P D vwCl (prw y ad (sI (tI (sI (tI (sI (sI (sI (sI (sI σ 36 n_34) 37 n_35) 33 n_36) 34 n_37) 35 n_38) 71 f_39) 65 n_40) 72 f_44) 66 n_45)) H := hP
                have hD : va_D A (prw y ad (sI (tI (sI (tI (sI (sI (sI (sI (sI σ 36 n_34) 37 n_35) 33 n_36) 34 n_37) 35 n_38) 71 f_39) 65 n_40) 72 f_44) 66 n_45)) := hD
                exact ih_loop i_46 n_34 n_35 n_36 n_37 n_38 f_39 n_40 f_44 n_45 H locs ls (by omega) (by omega) (by omega) (by omega) (by omega) (by omega) (by omega) (by omega) hP hD hS (lv_sub hl [0, 2] rfl)
              · have kc_43 : r_33.toInt = 0 := by have h9 := c_43; simp only [ge_iff_le, gt_iff_lt, x_lt, x_le, x_eq, ne_eq, Int32.not_lt, Int32.not_le] at h9; simp only [Int32.reduceToInt] at h9; omega
                refine lv_iconst (v := 0) hx hb dX5_sum_64 (by decide) ?_
                have hP : va_P D vwCl (prw y ad (sI (tI (sI (tI (sI (sI (sI (sI (sI σ 36 n_34) 37 n_35) 33 n_36) 34 n_37) 35 n_38) 71 f_39) 65 n_40) 72 f_41) 66 n_42)) H := hP
                have hD : va_D A (prw y ad (sI (tI (sI (tI (sI (sI (sI (sI (sI σ 36 n_34) 37 n_35) 33 n_36) 34 n_37) 35 n_38) 71 f_39) 65 n_40) 72 f_41) 66 n_42)) := hD
                exact x_zretW (v := 0) (u := (n_34, n_35, n_36, n_37, n_38, f_39, n_40, f_41, n_42)) hx hb hr hQ rfl (by (try dsimp only); exact ⟨by omega, by omega, by omega, by omega, by omega, by omega, by first | decide | omega, by first | omega | exact fun h9 => absurd h9 (by decide)⟩) hP hD hK hS dX5_sum_65 hlocks
          · have kc_13 : v_kind.toInt ≠ 43 := by have h9 := c_13; simp only [ge_iff_le, gt_iff_lt, x_lt, x_le, x_eq, ne_eq, Int32.not_lt, Int32.not_le] at h9; simp only [Int32.reduceToInt] at h9; omega
            refine lv_aload_n hx hb dX5_sum_27 rfl (lv_at hl 1 rfl) ?_
            refine va_get (D := D) (ci := 4) (v := .int v_kind) (C := RX5) (T := TX5) (N := 8) hx hb hts inX5 hown hK hP 0 prw_o0 rfl 3 (by decide) fl45 (fun _ h9 => h9) rfl dX5_sum_28 ?_
            refine lv_bipush (v := 45) hx hb dX5_sum_31 (by decide) ?_
            refine lv_icmp_ne (tgt := 81) hx hb dX5_sum_33 (by decide) (fun c_47 => ?_) (fun c_47 => ?_)
            · have kc_47 : v_kind.toInt ≠ 45 := by have h9 := c_47; simp only [ge_iff_le, gt_iff_lt, x_lt, x_le, x_eq, ne_eq, Int32.not_lt, Int32.not_le] at h9; simp only [Int32.reduceToInt] at h9; omega
              refine lv_iconst (v := 1) hx hb dX5_sum_81 (by decide) ?_
              exact x_zretW (v := 1) (u := (v_kindOfFault, v_bytesIntoToken, v_at, v_kind, v_open, v_number, v_numbers, v_code, v_length)) hx hb hr hQ rfl (by (try dsimp only); exact ⟨by omega, by omega, by omega, by omega, by omega, by omega, by first | decide | omega, by first | omega | exact fun h9 => absurd h9 (by decide)⟩) hP hD hK hS dX5_sum_82 hlocks
            · have kc_47 : v_kind.toInt = 45 := by have h9 := c_47; simp only [ge_iff_le, gt_iff_lt, x_lt, x_le, x_eq, ne_eq, Int32.not_lt, Int32.not_le] at h9; simp only [Int32.reduceToInt] at h9; omega
              refine lv_aload_n hx hb dX5_sum_36 rfl (lv_at hl 1 rfl) ?_
              refine va_get (D := D) (ci := 4) (v := .int v_kind) (C := RX5) (T := TX5) (N := 8) hx hb hts inX5 hown hK hP 0 prw_o0 rfl 3 (by decide) fl45 (fun _ h9 => h9) rfl dX5_sum_37 ?_
              refine lv_bipush (v := 43) hx hb dX5_sum_40 (by decide) ?_
              refine lv_icmp_ne (tgt := 50) hx hb dX5_sum_42 (by decide) (fun c_48 => ?_) (fun c_48 => ?_)
              · have kc_48 : v_kind.toInt ≠ 43 := by have h9 := c_48; simp only [ge_iff_le, gt_iff_lt, x_lt, x_le, x_eq, ne_eq, Int32.not_lt, Int32.not_le] at h9; simp only [Int32.reduceToInt] at h9; omega
                refine lv_bipush (v := 7) hx hb dX5_sum_50 (by decide) ?_
                refine lv_istore_n (lv' := [(2, .int 7), (1, .int i), (0, .ref (ad 30))]) hx hb dX5_sum_52 rfl hl (by decide) rfl (fun ls hl => ?_)
                refine lv_aload_n hx hb dX5_sum_53 rfl (lv_at hl 2 rfl) ?_
                refine x_callvW (va_runV (As := []) (rest := []) ⟨hx, hb, hml, hown, hts⟩ (z_pass l D y H.size ad (sI (tI (sI (tI (sI (sI (sI (sI (sI σ 36 v_kindOfFault) 37 v_bytesIntoToken) 33 v_at) 34 v_kind) 35 v_open) 71 v_number) 65 v_numbers) 72 v_code) 66 v_length) (show 0 ≤ ((σ.1 45)).toInt from by first | omega | decide) (show ((σ.1 45)).toInt ≤ 700 from by first | omega | decide)) (cwV 0 hts (goodIn_cons gCLs_0) rfl rfl rfl (by decide +kernel) ⟨by (try dsimp only); omega, by (try dsimp only); omega⟩) (x_preV (q := (RX5, TX5, 8)) hK hP hD (ci := 4) (q0 := 0) rfl prw_o0) rfl rfl hl.1 rfl (lv_room (Nat.le_of_ble_eq_true rfl)) dX5_sum_54 ⟨Nat.le_of_ble_eq_true rfl, Nat.le_of_ble_eq_true rfl⟩) hP hD hS hA (fun u H locs hw hP hD hS => ?_)
                obtain ⟨n_49, n_50⟩ := u
                try dsimp only at hw
                have hP : va_P D vwCl (prw y ad (sI (sI (sI (tI (sI (tI (sI (sI (sI (sI (sI σ 36 v_kindOfFault) 37 v_bytesIntoToken) 33 v_at) 34 v_kind) 35 v_open) 71 v_number) 65 v_numbers) 72 v_code) 66 v_length) 33 n_49) 34 n_50)) H := hP
                have hD : va_D A (prw y ad (sI (sI (sI (tI (sI (tI (sI (sI (sI (sI (sI σ 36 v_kindOfFault) 37 v_bytesIntoToken) 33 v_at) 34 v_kind) 35 v_open) 71 v_number) 65 v_numbers) 72 v_code) 66 v_length) 33 n_49) 34 n_50)) := hD
                replace hw : True := hw
                refine lv_aload_n hx hb dX5_sum_57 rfl (lv_at hl 2 rfl) ?_
                refine x_calliW (va_runV (As := []) (rest := []) ⟨hx, hb, hml, hown, hts⟩ (z_productR l D y H.size ad (sI (sI (sI (tI (sI (tI (sI (sI (sI (sI (sI σ 36 v_kindOfFault) 37 v_bytesIntoToken) 33 v_at) 34 v_kind) 35 v_open) 71 v_number) 65 v_numbers) 72 v_code) 66 v_length) 33 n_49) 34 n_50) d ihs (show 8 - (v_open).toInt ≤ (d : Int) from by first | omega | decide) (show 0 ≤ (v_open).toInt from by first | omega | decide) (show (v_open).toInt ≤ 8 from by first | omega | decide) (show 0 ≤ ((σ.1 45)).toInt from by first | omega | decide) (show ((σ.1 45)).toInt ≤ 700 from by first | omega | decide) (show 0 ≤ (v_length).toInt from by first | omega | decide) (show (v_length).toInt ≤ 700 from by first | omega | decide) (show 0 ≤ (v_numbers).toInt from by first | omega | decide) (show (v_numbers).toInt ≤ 350 from by first | omega | decide) (show 0 ≤ ((σ.1 68)).toInt from by first | omega | decide) (show ((σ.1 68)).toInt ≤ 24 from by first | omega | decide)) (cwV 0 hts (goodIn_cl hCLs (List.mem_of_getElem? (i := 0) rfl) (List.mem_of_getElem? (i := 1) rfl) (List.mem_of_getElem? (i := 2) rfl) (List.mem_of_getElem? (i := 3) rfl) (List.mem_of_getElem? (i := 4) rfl)) rfl rfl rfl (by decide +kernel) ⟨by (try dsimp only); omega, by (try dsimp only); omega⟩) (x_preV (q := (RX5, TX5, 8)) hK hP hD (ci := 4) (q0 := 0) rfl prw_o0) rfl rfl hl.1 rfl (lv_room (Nat.le_of_ble_eq_true rfl)) dX5_sum_58 ⟨Nat.le_of_ble_eq_true rfl, Nat.le_of_ble_eq_true rfl⟩) hP hD hS hA (fun r_51 u H locs hw hP hD hS => ?_)
                obtain ⟨n_52, n_53, n_54, n_55, n_56, f_57, n_58, f_59, n_60⟩ := u
                try dsimp only at hw
                have hP : va_P D vwCl (prw y ad (sI (tI (sI (tI (sI (sI (sI (sI (sI (sI (sI (sI (tI (sI (tI (sI (sI (sI (sI (sI σ 36 v_kindOfFault) 37 v_bytesIntoToken) 33 v_at) 34 v_kind) 35 v_open) 71 v_number) 65 v_numbers) 72 v_code) 66 v_length) 33 n_49) 34 n_50) 36 n_52) 37 n_53) 33 n_54) 34 n_55) 35 n_56) 71 f_57) 65 n_58) 72 f_59) 66 n_60)) H := hP
                have hD : va_D A (prw y ad (sI (tI (sI (tI (sI (sI (sI (sI (sI (sI (sI (sI (tI (sI (tI (sI (sI (sI (sI (sI σ 36 v_kindOfFault) 37 v_bytesIntoToken) 33 v_at) 34 v_kind) 35 v_open) 71 v_number) 65 v_numbers) 72 v_code) 66 v_length) 33 n_49) 34 n_50) 36 n_52) 37 n_53) 33 n_54) 34 n_55) 35 n_56) 71 f_57) 65 n_58) 72 f_59) 66 n_60)) := hD
                replace hw : 0 ≤ n_56.toInt ∧ n_56.toInt ≤ 8 ∧ 0 ≤ n_60.toInt ∧ n_60.toInt ≤ 700 ∧ 0 ≤ n_58.toInt ∧ n_58.toInt ≤ 350 ∧ (r_51.toInt = 0 ∨ r_51.toInt = 1) ∧ (r_51.toInt = 1 → n_56.toInt = (v_open).toInt) := hw
                obtain ⟨ho4, hp4, hq4, hr4, hs4, ht4, hu4, hv4⟩ := hw
                have hw := hu4
                refine lv_if_ne (tgt := 66) hx hb dX5_sum_61 (by decide) (fun c_61 => ?_) (fun c_61 => ?_)
                · have kc_61 : r_51.toInt ≠ 0 := by have h9 := c_61; simp only [ge_iff_le, gt_iff_lt, x_lt, x_le, x_eq, ne_eq, Int32.not_lt, Int32.not_le] at h9; simp only [Int32.reduceToInt] at h9; omega
                  refine lv_aload_n hx hb dX5_sum_66 rfl (lv_at hl 2 rfl) ?_
                  refine va_get (D := D) (ci := 4) (v := .ref (ad 60)) (C := RX5) (T := TX5) (N := 8) hx hb hts inX5 hown hK hP 0 prw_o0 rfl 1 (by decide) fl34 (fun _ h9 => h9) rfl dX5_sum_67 ?_
                  refine lv_iload_n hx hb dX5_sum_70 rfl (lv_at hl 0 rfl) ?_
                  refine lv_iconst (v := 0) hx hb dX5_sum_71 (by decide) ?_
                  have hPs : va_P D vwCl (pgw y ad (sI (tI (sI (tI (sI (sI (sI (sI (sI (sI (sI (sI (tI (sI (tI (sI (sI (sI (sI (sI σ 36 v_kindOfFault) 37 v_bytesIntoToken) 33 v_at) 34 v_kind) 35 v_open) 71 v_number) 65 v_numbers) 72 v_code) 66 v_length) 33 n_49) 34 n_50) 36 n_52) 37 n_53) 33 n_54) 34 n_55) 35 n_56) 71 f_57) 65 n_58) 72 f_59) 66 n_60)) H := x_suP hP [2, 7, 8, 9, 10, 11, 12] rfl
                  have hDs : va_D A (pgw y ad (sI (tI (sI (tI (sI (sI (sI (sI (sI (sI (sI (sI (tI (sI (tI (sI (sI (sI (sI (sI σ 36 v_kindOfFault) 37 v_bytesIntoToken) 33 v_at) 34 v_kind) 35 v_open) 71 v_number) 65 v_numbers) 72 v_code) 66 v_length) 33 n_49) 34 n_50) 36 n_52) 37 n_53) 33 n_54) 34 n_55) 35 n_56) 71 f_57) 65 n_58) 72 f_59) 66 n_60)) := x_suD hD [2, 7, 8, 9, 10, 11, 12] rfl (by decide)
                  refine x_callvS (b1 := fun (u : (Nat → Int32) × Int32) => (prw y ad (sI (tI (sI (tI (sI (tI (sI (sI (sI (sI (sI (sI (sI (sI (tI (sI (tI (sI (sI (sI (sI (sI σ 36 v_kindOfFault) 37 v_bytesIntoToken) 33 v_at) 34 v_kind) 35 v_open) 71 v_number) 65 v_numbers) 72 v_code) 66 v_length) 33 n_49) 34 n_50) 36 n_52) 37 n_53) 33 n_54) 34 n_55) 35 n_56) 71 f_57) 65 n_58) 72 f_59) 66 n_60) 72 u.1) 66 u.2))) [2, 7, 8, 9, 10, 11, 12] (va_runV (As := [.int 7, .int 0]) (rest := []) ⟨hx, hb, hml, hown, hts⟩ (w_emit l D y H.size ad (sI (tI (sI (tI (sI (sI (sI (sI (sI (sI (sI (sI (tI (sI (tI (sI (sI (sI (sI (sI σ 36 v_kindOfFault) 37 v_bytesIntoToken) 33 v_at) 34 v_kind) 35 v_open) 71 v_number) 65 v_numbers) 72 v_code) 66 v_length) 33 n_49) 34 n_50) 36 n_52) 37 n_53) 33 n_54) 34 n_55) 35 n_56) 71 f_57) 65 n_58) 72 f_59) 66 n_60) 7 0 (show 0 ≤ (n_60).toInt from by first | omega | decide) (show (n_60).toInt ≤ 700 from by first | omega | decide)) (cwV 2 hts (goodIn_cons gCLs_1) rfl rfl rfl (by decide +kernel) ⟨by (try dsimp only); omega, by (try dsimp only); omega⟩) (x_preV (q := (RX6, TX6, 13)) hK hPs hDs (ci := 5) (q0 := 0) rfl pgw_o0) rfl rfl hl.1 rfl (lv_room (Nat.le_of_ble_eq_true rfl)) dX5_sum_72 ⟨Nat.le_of_ble_eq_true rfl, Nat.le_of_ble_eq_true rfl⟩) hP hD hS hA rfl (fun _ => rfl) (fun _ => rfl) (fun _ => rfl) (fun u H locs hw hP hD hS => ?_)
                  obtain ⟨f_62, n_63⟩ := u
                  try dsimp only at hw
                  have hP : va_P D vwCl (prw y ad (sI (tI (sI (tI (sI (tI (sI (sI (sI (sI (sI (sI (sI (sI (tI (sI (tI (sI (sI (sI (sI (sI σ 36 v_kindOfFault) 37 v_bytesIntoToken) 33 v_at) 34 v_kind) 35 v_open) 71 v_number) 65 v_numbers) 72 v_code) 66 v_length) 33 n_49) 34 n_50) 36 n_52) 37 n_53) 33 n_54) 34 n_55) 35 n_56) 71 f_57) 65 n_58) 72 f_59) 66 n_60) 72 f_62) 66 n_63)) H := hP
                  have hD : va_D A (prw y ad (sI (tI (sI (tI (sI (tI (sI (sI (sI (sI (sI (sI (sI (sI (tI (sI (tI (sI (sI (sI (sI (sI σ 36 v_kindOfFault) 37 v_bytesIntoToken) 33 v_at) 34 v_kind) 35 v_open) 71 v_number) 65 v_numbers) 72 v_code) 66 v_length) 33 n_49) 34 n_50) 36 n_52) 37 n_53) 33 n_54) 34 n_55) 35 n_56) 71 f_57) 65 n_58) 72 f_59) 66 n_60) 72 f_62) 66 n_63)) := hD
                  replace hw : 0 ≤ n_63.toInt ∧ n_63.toInt ≤ 700 := hw
                  obtain ⟨i_64, ei_64⟩ : ∃ z9 : Int32, z9 = i + 1 := ⟨_, rfl⟩
                  have vi_64 : i_64.toInt = i.toInt + 1 := by have h9 := x_add ei_64 (by omega) (by omega); omega
                  refine lv_iinc (v := i_64) (lv' := [(1, .int i_64), (2, .int 7), (0, .ref (ad 30))]) hx hb dX5_sum_75 hl (k := 1) rfl (by rw [ei_64]; rfl) (by decide) rfl (fun ls hl => ?_)
                  refine lv_goto (tgt := 11) hx hb dX5_sum_78 (by decide) ?_
                  have hP : va_P D vwCl (prw y ad (sI (tI (sI (tI (sI (sI (sI (sI (sI σ 36 n_52) 37 n_53) 33 n_54) 34 n_55) 35 n_56) 71 f_57) 65 n_58) 72 f_62) 66 n_63)) H := hP
                  have hD : va_D A (prw y ad (sI (tI (sI (tI (sI (sI (sI (sI (sI σ 36 n_52) 37 n_53) 33 n_54) 34 n_55) 35 n_56) 71 f_57) 65 n_58) 72 f_62) 66 n_63)) := hD
                  exact ih_loop i_64 n_52 n_53 n_54 n_55 n_56 f_57 n_58 f_62 n_63 H locs ls (by omega) (by omega) (by omega) (by omega) (by omega) (by omega) (by omega) (by omega) hP hD hS (lv_sub hl [0, 2] rfl)
                · have kc_61 : r_51.toInt = 0 := by have h9 := c_61; simp only [ge_iff_le, gt_iff_lt, x_lt, x_le, x_eq, ne_eq, Int32.not_lt, Int32.not_le] at h9; simp only [Int32.reduceToInt] at h9; omega
                  refine lv_iconst (v := 0) hx hb dX5_sum_64 (by decide) ?_
                  have hP : va_P D vwCl (prw y ad (sI (tI (sI (tI (sI (sI (sI (sI (sI σ 36 n_52) 37 n_53) 33 n_54) 34 n_55) 35 n_56) 71 f_57) 65 n_58) 72 f_59) 66 n_60)) H := hP
                  have hD : va_D A (prw y ad (sI (tI (sI (tI (sI (sI (sI (sI (sI σ 36 n_52) 37 n_53) 33 n_54) 34 n_55) 35 n_56) 71 f_57) 65 n_58) 72 f_59) 66 n_60)) := hD
                  exact x_zretW (v := 0) (u := (n_52, n_53, n_54, n_55, n_56, f_57, n_58, f_59, n_60)) hx hb hr hQ rfl (by (try dsimp only); exact ⟨by omega, by omega, by omega, by omega, by omega, by omega, by first | decide | omega, by first | omega | exact fun h9 => absurd h9 (by decide)⟩) hP hD hK hS dX5_sum_65 hlocks
              · have kc_48 : v_kind.toInt = 43 := by have h9 := c_48; simp only [ge_iff_le, gt_iff_lt, x_lt, x_le, x_eq, ne_eq, Int32.not_lt, Int32.not_le] at h9; simp only [Int32.reduceToInt] at h9; omega
                refine lv_bipush (v := 6) hx hb dX5_sum_45 (by decide) ?_
                refine lv_goto (tgt := 52) hx hb dX5_sum_47 (by decide) ?_
                refine lv_istore_n (lv' := [(2, .int 6), (1, .int i), (0, .ref (ad 30))]) hx hb dX5_sum_52 rfl hl (by decide) rfl (fun ls hl => ?_)
                refine lv_aload_n hx hb dX5_sum_53 rfl (lv_at hl 2 rfl) ?_
                refine x_callvW (va_runV (As := []) (rest := []) ⟨hx, hb, hml, hown, hts⟩ (z_pass l D y H.size ad (sI (tI (sI (tI (sI (sI (sI (sI (sI σ 36 v_kindOfFault) 37 v_bytesIntoToken) 33 v_at) 34 v_kind) 35 v_open) 71 v_number) 65 v_numbers) 72 v_code) 66 v_length) (show 0 ≤ ((σ.1 45)).toInt from by first | omega | decide) (show ((σ.1 45)).toInt ≤ 700 from by first | omega | decide)) (cwV 0 hts (goodIn_cons gCLs_0) rfl rfl rfl (by decide +kernel) ⟨by (try dsimp only); omega, by (try dsimp only); omega⟩) (x_preV (q := (RX5, TX5, 8)) hK hP hD (ci := 4) (q0 := 0) rfl prw_o0) rfl rfl hl.1 rfl (lv_room (Nat.le_of_ble_eq_true rfl)) dX5_sum_54 ⟨Nat.le_of_ble_eq_true rfl, Nat.le_of_ble_eq_true rfl⟩) hP hD hS hA (fun u H locs hw hP hD hS => ?_)
                obtain ⟨n_65, n_66⟩ := u
                try dsimp only at hw
                have hP : va_P D vwCl (prw y ad (sI (sI (sI (tI (sI (tI (sI (sI (sI (sI (sI σ 36 v_kindOfFault) 37 v_bytesIntoToken) 33 v_at) 34 v_kind) 35 v_open) 71 v_number) 65 v_numbers) 72 v_code) 66 v_length) 33 n_65) 34 n_66)) H := hP
                have hD : va_D A (prw y ad (sI (sI (sI (tI (sI (tI (sI (sI (sI (sI (sI σ 36 v_kindOfFault) 37 v_bytesIntoToken) 33 v_at) 34 v_kind) 35 v_open) 71 v_number) 65 v_numbers) 72 v_code) 66 v_length) 33 n_65) 34 n_66)) := hD
                replace hw : True := hw
                refine lv_aload_n hx hb dX5_sum_57 rfl (lv_at hl 2 rfl) ?_
                refine x_calliW (va_runV (As := []) (rest := []) ⟨hx, hb, hml, hown, hts⟩ (z_productR l D y H.size ad (sI (sI (sI (tI (sI (tI (sI (sI (sI (sI (sI σ 36 v_kindOfFault) 37 v_bytesIntoToken) 33 v_at) 34 v_kind) 35 v_open) 71 v_number) 65 v_numbers) 72 v_code) 66 v_length) 33 n_65) 34 n_66) d ihs (show 8 - (v_open).toInt ≤ (d : Int) from by first | omega | decide) (show 0 ≤ (v_open).toInt from by first | omega | decide) (show (v_open).toInt ≤ 8 from by first | omega | decide) (show 0 ≤ ((σ.1 45)).toInt from by first | omega | decide) (show ((σ.1 45)).toInt ≤ 700 from by first | omega | decide) (show 0 ≤ (v_length).toInt from by first | omega | decide) (show (v_length).toInt ≤ 700 from by first | omega | decide) (show 0 ≤ (v_numbers).toInt from by first | omega | decide) (show (v_numbers).toInt ≤ 350 from by first | omega | decide) (show 0 ≤ ((σ.1 68)).toInt from by first | omega | decide) (show ((σ.1 68)).toInt ≤ 24 from by first | omega | decide)) (cwV 0 hts (goodIn_cl hCLs (List.mem_of_getElem? (i := 0) rfl) (List.mem_of_getElem? (i := 1) rfl) (List.mem_of_getElem? (i := 2) rfl) (List.mem_of_getElem? (i := 3) rfl) (List.mem_of_getElem? (i := 4) rfl)) rfl rfl rfl (by decide +kernel) ⟨by (try dsimp only); omega, by (try dsimp only); omega⟩) (x_preV (q := (RX5, TX5, 8)) hK hP hD (ci := 4) (q0 := 0) rfl prw_o0) rfl rfl hl.1 rfl (lv_room (Nat.le_of_ble_eq_true rfl)) dX5_sum_58 ⟨Nat.le_of_ble_eq_true rfl, Nat.le_of_ble_eq_true rfl⟩) hP hD hS hA (fun r_67 u H locs hw hP hD hS => ?_)
                obtain ⟨n_68, n_69, n_70, n_71, n_72, f_73, n_74, f_75, n_76⟩ := u
                try dsimp only at hw
                have hP : va_P D vwCl (prw y ad (sI (tI (sI (tI (sI (sI (sI (sI (sI (sI (sI (sI (tI (sI (tI (sI (sI (sI (sI (sI σ 36 v_kindOfFault) 37 v_bytesIntoToken) 33 v_at) 34 v_kind) 35 v_open) 71 v_number) 65 v_numbers) 72 v_code) 66 v_length) 33 n_65) 34 n_66) 36 n_68) 37 n_69) 33 n_70) 34 n_71) 35 n_72) 71 f_73) 65 n_74) 72 f_75) 66 n_76)) H := hP
                have hD : va_D A (prw y ad (sI (tI (sI (tI (sI (sI (sI (sI (sI (sI (sI (sI (tI (sI (tI (sI (sI (sI (sI (sI σ 36 v_kindOfFault) 37 v_bytesIntoToken) 33 v_at) 34 v_kind) 35 v_open) 71 v_number) 65 v_numbers) 72 v_code) 66 v_length) 33 n_65) 34 n_66) 36 n_68) 37 n_69) 33 n_70) 34 n_71) 35 n_72) 71 f_73) 65 n_74) 72 f_75) 66 n_76)) := hD
                replace hw : 0 ≤ n_72.toInt ∧ n_72.toInt ≤ 8 ∧ 0 ≤ n_76.toInt ∧ n_76.toInt ≤ 700 ∧ 0 ≤ n_74.toInt ∧ n_74.toInt ≤ 350 ∧ (r_67.toInt = 0 ∨ r_67.toInt = 1) ∧ (r_67.toInt = 1 → n_72.toInt = (v_open).toInt) := hw
                obtain ⟨ho5, hp5, hq5, hr5, hs5, ht5, hu5, hv5⟩ := hw
                have hw := hu5
                refine lv_if_ne (tgt := 66) hx hb dX5_sum_61 (by decide) (fun c_77 => ?_) (fun c_77 => ?_)
                · have kc_77 : r_67.toInt ≠ 0 := by have h9 := c_77; simp only [ge_iff_le, gt_iff_lt, x_lt, x_le, x_eq, ne_eq, Int32.not_lt, Int32.not_le] at h9; simp only [Int32.reduceToInt] at h9; omega
                  refine lv_aload_n hx hb dX5_sum_66 rfl (lv_at hl 2 rfl) ?_
                  refine va_get (D := D) (ci := 4) (v := .ref (ad 60)) (C := RX5) (T := TX5) (N := 8) hx hb hts inX5 hown hK hP 0 prw_o0 rfl 1 (by decide) fl34 (fun _ h9 => h9) rfl dX5_sum_67 ?_
                  refine lv_iload_n hx hb dX5_sum_70 rfl (lv_at hl 0 rfl) ?_
                  refine lv_iconst (v := 0) hx hb dX5_sum_71 (by decide) ?_
                  have hPs : va_P D vwCl (pgw y ad (sI (tI (sI (tI (sI (sI (sI (sI (sI (sI (sI (sI (tI (sI (tI (sI (sI (sI (sI (sI σ 36 v_kindOfFault) 37 v_bytesIntoToken) 33 v_at) 34 v_kind) 35 v_open) 71 v_number) 65 v_numbers) 72 v_code) 66 v_length) 33 n_65) 34 n_66) 36 n_68) 37 n_69) 33 n_70) 34 n_71) 35 n_72) 71 f_73) 65 n_74) 72 f_75) 66 n_76)) H := x_suP hP [2, 7, 8, 9, 10, 11, 12] rfl
                  have hDs : va_D A (pgw y ad (sI (tI (sI (tI (sI (sI (sI (sI (sI (sI (sI (sI (tI (sI (tI (sI (sI (sI (sI (sI σ 36 v_kindOfFault) 37 v_bytesIntoToken) 33 v_at) 34 v_kind) 35 v_open) 71 v_number) 65 v_numbers) 72 v_code) 66 v_length) 33 n_65) 34 n_66) 36 n_68) 37 n_69) 33 n_70) 34 n_71) 35 n_72) 71 f_73) 65 n_74) 72 f_75) 66 n_76)) := x_suD hD [2, 7, 8, 9, 10, 11, 12] rfl (by decide)
                  refine x_callvS (b1 := fun (u : (Nat → Int32) × Int32) => (prw y ad (sI (tI (sI (tI (sI (tI (sI (sI (sI (sI (sI (sI (sI (sI (tI (sI (tI (sI (sI (sI (sI (sI σ 36 v_kindOfFault) 37 v_bytesIntoToken) 33 v_at) 34 v_kind) 35 v_open) 71 v_number) 65 v_numbers) 72 v_code) 66 v_length) 33 n_65) 34 n_66) 36 n_68) 37 n_69) 33 n_70) 34 n_71) 35 n_72) 71 f_73) 65 n_74) 72 f_75) 66 n_76) 72 u.1) 66 u.2))) [2, 7, 8, 9, 10, 11, 12] (va_runV (As := [.int 6, .int 0]) (rest := []) ⟨hx, hb, hml, hown, hts⟩ (w_emit l D y H.size ad (sI (tI (sI (tI (sI (sI (sI (sI (sI (sI (sI (sI (tI (sI (tI (sI (sI (sI (sI (sI σ 36 v_kindOfFault) 37 v_bytesIntoToken) 33 v_at) 34 v_kind) 35 v_open) 71 v_number) 65 v_numbers) 72 v_code) 66 v_length) 33 n_65) 34 n_66) 36 n_68) 37 n_69) 33 n_70) 34 n_71) 35 n_72) 71 f_73) 65 n_74) 72 f_75) 66 n_76) 6 0 (show 0 ≤ (n_76).toInt from by first | omega | decide) (show (n_76).toInt ≤ 700 from by first | omega | decide)) (cwV 2 hts (goodIn_cons gCLs_1) rfl rfl rfl (by decide +kernel) ⟨by (try dsimp only); omega, by (try dsimp only); omega⟩) (x_preV (q := (RX6, TX6, 13)) hK hPs hDs (ci := 5) (q0 := 0) rfl pgw_o0) rfl rfl hl.1 rfl (lv_room (Nat.le_of_ble_eq_true rfl)) dX5_sum_72 ⟨Nat.le_of_ble_eq_true rfl, Nat.le_of_ble_eq_true rfl⟩) hP hD hS hA rfl (fun _ => rfl) (fun _ => rfl) (fun _ => rfl) (fun u H locs hw hP hD hS => ?_)
                  obtain ⟨f_78, n_79⟩ := u
                  try dsimp only at hw
                  have hP : va_P D vwCl (prw y ad (sI (tI (sI (tI (sI (tI (sI (sI (sI (sI (sI (sI (sI (sI (tI (sI (tI (sI (sI (sI (sI (sI σ 36 v_kindOfFault) 37 v_bytesIntoToken) 33 v_at) 34 v_kind) 35 v_open) 71 v_number) 65 v_numbers) 72 v_code) 66 v_length) 33 n_65) 34 n_66) 36 n_68) 37 n_69) 33 n_70) 34 n_71) 35 n_72) 71 f_73) 65 n_74) 72 f_75) 66 n_76) 72 f_78) 66 n_79)) H := hP
                  have hD : va_D A (prw y ad (sI (tI (sI (tI (sI (tI (sI (sI (sI (sI (sI (sI (sI (sI (tI (sI (tI (sI (sI (sI (sI (sI σ 36 v_kindOfFault) 37 v_bytesIntoToken) 33 v_at) 34 v_kind) 35 v_open) 71 v_number) 65 v_numbers) 72 v_code) 66 v_length) 33 n_65) 34 n_66) 36 n_68) 37 n_69) 33 n_70) 34 n_71) 35 n_72) 71 f_73) 65 n_74) 72 f_75) 66 n_76) 72 f_78) 66 n_79)) := hD
                  replace hw : 0 ≤ n_79.toInt ∧ n_79.toInt ≤ 700 := hw
                  obtain ⟨i_80, ei_80⟩ : ∃ z9 : Int32, z9 = i + 1 := ⟨_, rfl⟩
                  have vi_80 : i_80.toInt = i.toInt + 1 := by have h9 := x_add ei_80 (by omega) (by omega); omega
                  refine lv_iinc (v := i_80) (lv' := [(1, .int i_80), (2, .int 6), (0, .ref (ad 30))]) hx hb dX5_sum_75 hl (k := 1) rfl (by rw [ei_80]; rfl) (by decide) rfl (fun ls hl => ?_)
                  refine lv_goto (tgt := 11) hx hb dX5_sum_78 (by decide) ?_
                  have hP : va_P D vwCl (prw y ad (sI (tI (sI (tI (sI (sI (sI (sI (sI σ 36 n_68) 37 n_69) 33 n_70) 34 n_71) 35 n_72) 71 f_73) 65 n_74) 72 f_78) 66 n_79)) H := hP
                  have hD : va_D A (prw y ad (sI (tI (sI (tI (sI (sI (sI (sI (sI σ 36 n_68) 37 n_69) 33 n_70) 34 n_71) 35 n_72) 71 f_73) 65 n_74) 72 f_78) 66 n_79)) := hD
                  exact ih_loop i_80 n_68 n_69 n_70 n_71 n_72 f_73 n_74 f_78 n_79 H locs ls (by omega) (by omega) (by omega) (by omega) (by omega) (by omega) (by omega) (by omega) hP hD hS (lv_sub hl [0, 2] rfl)
                · have kc_77 : r_67.toInt = 0 := by have h9 := c_77; simp only [ge_iff_le, gt_iff_lt, x_lt, x_le, x_eq, ne_eq, Int32.not_lt, Int32.not_le] at h9; simp only [Int32.reduceToInt] at h9; omega
                  refine lv_iconst (v := 0) hx hb dX5_sum_64 (by decide) ?_
                  have hP : va_P D vwCl (prw y ad (sI (tI (sI (tI (sI (sI (sI (sI (sI σ 36 n_68) 37 n_69) 33 n_70) 34 n_71) 35 n_72) 71 f_73) 65 n_74) 72 f_75) 66 n_76)) H := hP
                  have hD : va_D A (prw y ad (sI (tI (sI (tI (sI (sI (sI (sI (sI σ 36 n_68) 37 n_69) 33 n_70) 34 n_71) 35 n_72) 71 f_73) 65 n_74) 72 f_75) 66 n_76)) := hD
                  exact x_zretW (v := 0) (u := (n_68, n_69, n_70, n_71, n_72, f_73, n_74, f_75, n_76)) hx hb hr hQ rfl (by (try dsimp only); exact ⟨by omega, by omega, by omega, by omega, by omega, by omega, by first | decide | omega, by first | omega | exact fun h9 => absurd h9 (by decide)⟩) hP hD hK hS dX5_sum_65 hlocks
    exact loop 701 0 n_2 n_3 n_4 n_5 n_6 f_7 n_8 f_9 n_10 H locs ls (by decide) (by decide) (by omega) (by omega) (by omega) (by omega) (by omega) (by omega) hP hD hS (lv_sub hl [0, 1] rfl)
  · have kc_11 : r_1.toInt = 0 := by have h9 := c_11; simp only [ge_iff_le, gt_iff_lt, x_lt, x_le, x_eq, ne_eq, Int32.not_lt, Int32.not_le] at h9; simp only [Int32.reduceToInt] at h9; omega
    refine lv_iconst (v := 0) hx hb dX5_sum_7 (by decide) ?_
    exact x_zretW (v := 0) (u := (n_2, n_3, n_4, n_5, n_6, f_7, n_8, f_9, n_10)) hx hb hr hQ rfl (by (try dsimp only); exact ⟨by omega, by omega, by omega, by omega, by omega, by omega, by first | decide | omega, by first | omega | exact fun h9 => absurd h9 (by decide)⟩) hP hD hK hS dX5_sum_8 hlocks

theorem C_sum_all : ∀ d, C_sum d := by
  intro d
  induction d with
  | zero => exact fun l D y sz ad σ hdp hopen0 hopen1 htcount0 htcount1 hlength0 hlength1 hnumbers0 hnumbers1 hnames0 hnames1 => z_sumR l D y sz ad σ 0 (fun e h => absurd h (by omega)) hdp hopen0 hopen1 htcount0 htcount1 hlength0 hlength1 hnumbers0 hnumbers1 hnames0 hnames1
  | succ d ih => exact fun l D y sz ad σ hdp hopen0 hopen1 htcount0 htcount1 hlength0 hlength1 hnumbers0 hnumbers1 hnames0 hnames1 => z_sumR l D y sz ad σ (d + 1) (fun e h => by cases h; exact ih) hdp hopen0 hopen1 htcount0 htcount1 hlength0 hlength1 hnumbers0 hnumbers1 hnames0 hnames1

