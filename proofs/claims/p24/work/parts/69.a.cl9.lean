theorem dX5_test_0 : decode cX5_test 0 = .ok (.aload_n 0, 1) := by decide +kernel
theorem dX5_test_1 : decode cX5_test 1 = .ok (.invokevirtual 173, 3) := by decide +kernel
theorem dX5_test_4 : decode cX5_test 4 = .ok (.ifCond .ne 5, 3) := by decide +kernel
theorem dX5_test_7 : decode cX5_test 7 = .ok (.iconst 0, 1) := by decide +kernel
theorem dX5_test_8 : decode cX5_test 8 = .ok (.ireturn, 1) := by decide +kernel
theorem dX5_test_9 : decode cX5_test 9 = .ok (.iconst 0, 1) := by decide +kernel
theorem dX5_test_10 : decode cX5_test 10 = .ok (.istore_n 1, 1) := by decide +kernel
theorem dX5_test_11 : decode cX5_test 11 = .ok (.iload_n 1, 1) := by decide +kernel
theorem dX5_test_12 : decode cX5_test 12 = .ok (.sipush 700, 3) := by decide +kernel
theorem dX5_test_15 : decode cX5_test 15 = .ok (.if_icmp .ge 42, 3) := by decide +kernel
theorem dX5_test_18 : decode cX5_test 18 = .ok (.aload_n 0, 1) := by decide +kernel
theorem dX5_test_19 : decode cX5_test 19 = .ok (.getfield 45, 3) := by decide +kernel
theorem dX5_test_22 : decode cX5_test 22 = .ok (.sipush 271, 3) := by decide +kernel
theorem dX5_test_25 : decode cX5_test 25 = .ok (.if_icmp .ne 32, 3) := by decide +kernel
theorem dX5_test_28 : decode cX5_test 28 = .ok (.aload_n 0, 1) := by decide +kernel
theorem dX5_test_29 : decode cX5_test 29 = .ok (.invokevirtual 86, 3) := by decide +kernel
theorem dX5_test_32 : decode cX5_test 32 = .ok (.aload_n 0, 1) := by decide +kernel
theorem dX5_test_33 : decode cX5_test 33 = .ok (.invokevirtual 173, 3) := by decide +kernel
theorem dX5_test_36 : decode cX5_test 36 = .ok (.ifCond .ne 5, 3) := by decide +kernel
theorem dX5_test_39 : decode cX5_test 39 = .ok (.iconst 0, 1) := by decide +kernel
theorem dX5_test_40 : decode cX5_test 40 = .ok (.ireturn, 1) := by decide +kernel
theorem dX5_test_41 : decode cX5_test 41 = .ok (.aload_n 0, 1) := by decide +kernel
theorem dX5_test_42 : decode cX5_test 42 = .ok (.getfield 34, 3) := by decide +kernel
theorem dX5_test_45 : decode cX5_test 45 = .ok (.bipush 18, 2) := by decide +kernel
theorem dX5_test_47 : decode cX5_test 47 = .ok (.iconst 0, 1) := by decide +kernel
theorem dX5_test_48 : decode cX5_test 48 = .ok (.invokevirtual 155, 3) := by decide +kernel
theorem dX5_test_51 : decode cX5_test 51 = .ok (.iinc 1 1, 3) := by decide +kernel
theorem dX5_test_54 : decode cX5_test 54 = .ok (.goto (-43), 3) := by decide +kernel
theorem dX5_test_57 : decode cX5_test 57 = .ok (.iconst 1, 1) := by decide +kernel
theorem dX5_test_58 : decode cX5_test 58 = .ok (.ireturn, 1) := by decide +kernel
theorem dX5_both_0 : decode cX5_both 0 = .ok (.aload_n 0, 1) := by decide +kernel
theorem dX5_both_1 : decode cX5_both 1 = .ok (.invokevirtual 178, 3) := by decide +kernel
theorem dX5_both_4 : decode cX5_both 4 = .ok (.ifCond .ne 5, 3) := by decide +kernel
theorem dX5_both_7 : decode cX5_both 7 = .ok (.iconst 0, 1) := by decide +kernel
theorem dX5_both_8 : decode cX5_both 8 = .ok (.ireturn, 1) := by decide +kernel
theorem dX5_both_9 : decode cX5_both 9 = .ok (.iconst 0, 1) := by decide +kernel
theorem dX5_both_10 : decode cX5_both 10 = .ok (.istore_n 1, 1) := by decide +kernel
theorem dX5_both_11 : decode cX5_both 11 = .ok (.iload_n 1, 1) := by decide +kernel
theorem dX5_both_12 : decode cX5_both 12 = .ok (.sipush 700, 3) := by decide +kernel
theorem dX5_both_15 : decode cX5_both 15 = .ok (.if_icmp .ge 42, 3) := by decide +kernel
theorem dX5_both_18 : decode cX5_both 18 = .ok (.aload_n 0, 1) := by decide +kernel
theorem dX5_both_19 : decode cX5_both 19 = .ok (.getfield 45, 3) := by decide +kernel
theorem dX5_both_22 : decode cX5_both 22 = .ok (.sipush 270, 3) := by decide +kernel
theorem dX5_both_25 : decode cX5_both 25 = .ok (.if_icmp .ne 32, 3) := by decide +kernel
theorem dX5_both_28 : decode cX5_both 28 = .ok (.aload_n 0, 1) := by decide +kernel
theorem dX5_both_29 : decode cX5_both 29 = .ok (.invokevirtual 86, 3) := by decide +kernel
theorem dX5_both_32 : decode cX5_both 32 = .ok (.aload_n 0, 1) := by decide +kernel
theorem dX5_both_33 : decode cX5_both 33 = .ok (.invokevirtual 178, 3) := by decide +kernel
theorem dX5_both_36 : decode cX5_both 36 = .ok (.ifCond .ne 5, 3) := by decide +kernel
theorem dX5_both_39 : decode cX5_both 39 = .ok (.iconst 0, 1) := by decide +kernel
theorem dX5_both_40 : decode cX5_both 40 = .ok (.ireturn, 1) := by decide +kernel
theorem dX5_both_41 : decode cX5_both 41 = .ok (.aload_n 0, 1) := by decide +kernel
theorem dX5_both_42 : decode cX5_both 42 = .ok (.getfield 34, 3) := by decide +kernel
theorem dX5_both_45 : decode cX5_both 45 = .ok (.bipush 17, 2) := by decide +kernel
theorem dX5_both_47 : decode cX5_both 47 = .ok (.iconst 0, 1) := by decide +kernel
theorem dX5_both_48 : decode cX5_both 48 = .ok (.invokevirtual 155, 3) := by decide +kernel
theorem dX5_both_51 : decode cX5_both 51 = .ok (.iinc 1 1, 3) := by decide +kernel
theorem dX5_both_54 : decode cX5_both 54 = .ok (.goto (-43), 3) := by decide +kernel
theorem dX5_both_57 : decode cX5_both 57 = .ok (.iconst 1, 1) := by decide +kernel
theorem dX5_both_58 : decode cX5_both 58 = .ok (.ireturn, 1) := by decide +kernel
theorem dX5_fact_0 : decode cX5_fact 0 = .ok (.aload_n 0, 1) := by decide +kernel
theorem dX5_fact_1 : decode cX5_fact 1 = .ok (.getfield 45, 3) := by decide +kernel
theorem dX5_fact_4 : decode cX5_fact 4 = .ok (.bipush 91, 2) := by decide +kernel
theorem dX5_fact_6 : decode cX5_fact 6 = .ok (.if_icmp .ne 34, 3) := by decide +kernel
theorem dX5_fact_9 : decode cX5_fact 9 = .ok (.aload_n 0, 1) := by decide +kernel
theorem dX5_fact_10 : decode cX5_fact 10 = .ok (.bipush 91, 2) := by decide +kernel
theorem dX5_fact_12 : decode cX5_fact 12 = .ok (.invokevirtual 167, 3) := by decide +kernel
theorem dX5_fact_15 : decode cX5_fact 15 = .ok (.ifCond .eq 23, 3) := by decide +kernel
theorem dX5_fact_18 : decode cX5_fact 18 = .ok (.aload_n 0, 1) := by decide +kernel
theorem dX5_fact_19 : decode cX5_fact 19 = .ok (.invokevirtual 158, 3) := by decide +kernel
theorem dX5_fact_22 : decode cX5_fact 22 = .ok (.ifCond .eq 16, 3) := by decide +kernel
theorem dX5_fact_25 : decode cX5_fact 25 = .ok (.aload_n 0, 1) := by decide +kernel
theorem dX5_fact_26 : decode cX5_fact 26 = .ok (.bipush 93, 2) := by decide +kernel
theorem dX5_fact_28 : decode cX5_fact 28 = .ok (.invokevirtual 170, 3) := by decide +kernel
theorem dX5_fact_31 : decode cX5_fact 31 = .ok (.ifCond .eq 7, 3) := by decide +kernel
theorem dX5_fact_34 : decode cX5_fact 34 = .ok (.iconst 1, 1) := by decide +kernel
theorem dX5_fact_35 : decode cX5_fact 35 = .ok (.goto 4, 3) := by decide +kernel
theorem dX5_fact_38 : decode cX5_fact 38 = .ok (.iconst 0, 1) := by decide +kernel
theorem dX5_fact_39 : decode cX5_fact 39 = .ok (.ireturn, 1) := by decide +kernel
theorem dX5_fact_40 : decode cX5_fact 40 = .ok (.aload_n 0, 1) := by decide +kernel
theorem dX5_fact_41 : decode cX5_fact 41 = .ok (.getfield 45, 3) := by decide +kernel
theorem dX5_fact_44 : decode cX5_fact 44 = .ok (.sipush 272, 3) := by decide +kernel
theorem dX5_fact_47 : decode cX5_fact 47 = .ok (.if_icmp .ne 44, 3) := by decide +kernel
theorem dX5_fact_50 : decode cX5_fact 50 = .ok (.aload_n 0, 1) := by decide +kernel
theorem dX5_fact_51 : decode cX5_fact 51 = .ok (.sipush 272, 3) := by decide +kernel
theorem dX5_fact_54 : decode cX5_fact 54 = .ok (.invokevirtual 167, 3) := by decide +kernel
theorem dX5_fact_57 : decode cX5_fact 57 = .ok (.ifCond .eq 10, 3) := by decide +kernel
theorem dX5_fact_60 : decode cX5_fact 60 = .ok (.aload_n 0, 1) := by decide +kernel
theorem dX5_fact_61 : decode cX5_fact 61 = .ok (.invokevirtual 178, 3) := by decide +kernel
theorem dX5_fact_64 : decode cX5_fact 64 = .ok (.ifCond .ne 5, 3) := by decide +kernel
theorem dX5_fact_67 : decode cX5_fact 67 = .ok (.iconst 0, 1) := by decide +kernel
theorem dX5_fact_68 : decode cX5_fact 68 = .ok (.ireturn, 1) := by decide +kernel
theorem dX5_fact_69 : decode cX5_fact 69 = .ok (.aload_n 0, 1) := by decide +kernel
theorem dX5_fact_70 : decode cX5_fact 70 = .ok (.dup, 1) := by decide +kernel
theorem dX5_fact_71 : decode cX5_fact 71 = .ok (.getfield 48, 3) := by decide +kernel
theorem dX5_fact_74 : decode cX5_fact 74 = .ok (.iconst 1, 1) := by decide +kernel
theorem dX5_fact_75 : decode cX5_fact 75 = .ok (.isub, 1) := by decide +kernel
theorem dX5_fact_76 : decode cX5_fact 76 = .ok (.putfield 48, 3) := by decide +kernel
theorem dX5_fact_79 : decode cX5_fact 79 = .ok (.aload_n 0, 1) := by decide +kernel
theorem dX5_fact_80 : decode cX5_fact 80 = .ok (.getfield 34, 3) := by decide +kernel
theorem dX5_fact_83 : decode cX5_fact 83 = .ok (.bipush 16, 2) := by decide +kernel
theorem dX5_fact_85 : decode cX5_fact 85 = .ok (.iconst 0, 1) := by decide +kernel
theorem dX5_fact_86 : decode cX5_fact 86 = .ok (.invokevirtual 155, 3) := by decide +kernel
theorem dX5_fact_89 : decode cX5_fact 89 = .ok (.iconst 1, 1) := by decide +kernel
theorem dX5_fact_90 : decode cX5_fact 90 = .ok (.ireturn, 1) := by decide +kernel
theorem dX5_fact_91 : decode cX5_fact 91 = .ok (.aload_n 0, 1) := by decide +kernel
theorem dX5_fact_92 : decode cX5_fact 92 = .ok (.invokevirtual 145, 3) := by decide +kernel
theorem dX5_fact_95 : decode cX5_fact 95 = .ok (.ifCond .ne 5, 3) := by decide +kernel
theorem dX5_fact_98 : decode cX5_fact 98 = .ok (.iconst 0, 1) := by decide +kernel
theorem dX5_fact_99 : decode cX5_fact 99 = .ok (.ireturn, 1) := by decide +kernel
theorem dX5_fact_100 : decode cX5_fact 100 = .ok (.aload_n 0, 1) := by decide +kernel
theorem dX5_fact_101 : decode cX5_fact 101 = .ok (.invokevirtual 181, 3) := by decide +kernel
theorem dX5_fact_104 : decode cX5_fact 104 = .ok (.istore_n 1, 1) := by decide +kernel
theorem dX5_fact_105 : decode cX5_fact 105 = .ok (.iload_n 1, 1) := by decide +kernel
theorem dX5_fact_106 : decode cX5_fact 106 = .ok (.iconst (-1), 1) := by decide +kernel
theorem dX5_fact_107 : decode cX5_fact 107 = .ok (.if_icmp .ne 9, 3) := by decide +kernel
theorem dX5_fact_110 : decode cX5_fact 110 = .ok (.aload_n 0, 1) := by decide +kernel
theorem dX5_fact_111 : decode cX5_fact 111 = .ok (.iconst 1, 1) := by decide +kernel
theorem dX5_fact_112 : decode cX5_fact 112 = .ok (.invokevirtual 61, 3) := by decide +kernel
theorem dX5_fact_115 : decode cX5_fact 115 = .ok (.ireturn, 1) := by decide +kernel
theorem dX5_fact_116 : decode cX5_fact 116 = .ok (.aload_n 0, 1) := by decide +kernel
theorem dX5_fact_117 : decode cX5_fact 117 = .ok (.invokevirtual 86, 3) := by decide +kernel
theorem dX5_fact_120 : decode cX5_fact 120 = .ok (.aload_n 0, 1) := by decide +kernel
theorem dX5_fact_121 : decode cX5_fact 121 = .ok (.invokevirtual 145, 3) := by decide +kernel
theorem dX5_fact_124 : decode cX5_fact 124 = .ok (.ifCond .ne 5, 3) := by decide +kernel
theorem dX5_fact_127 : decode cX5_fact 127 = .ok (.iconst 0, 1) := by decide +kernel
theorem dX5_fact_128 : decode cX5_fact 128 = .ok (.ireturn, 1) := by decide +kernel
theorem dX5_fact_129 : decode cX5_fact 129 = .ok (.aload_n 0, 1) := by decide +kernel
theorem dX5_fact_130 : decode cX5_fact 130 = .ok (.getfield 34, 3) := by decide +kernel
theorem dX5_fact_133 : decode cX5_fact 133 = .ok (.iload_n 1, 1) := by decide +kernel
theorem dX5_fact_134 : decode cX5_fact 134 = .ok (.iconst 0, 1) := by decide +kernel
theorem dX5_fact_135 : decode cX5_fact 135 = .ok (.invokevirtual 155, 3) := by decide +kernel
theorem dX5_fact_138 : decode cX5_fact 138 = .ok (.iconst 1, 1) := by decide +kernel
theorem dX5_fact_139 : decode cX5_fact 139 = .ok (.ireturn, 1) := by decide +kernel
abbrev v_z_sum : List Cond := v_z_sumR
theorem z_sum (l : Launch) (D : va_G) (y : Nat → ClassId) (sz : Nat) (ad : Nat → Nat) (σ : OS) (hopen0 : 0 ≤ (σ.1 35).toInt) (hopen1 : (σ.1 35).toInt ≤ 8) (htcount0 : 0 ≤ (σ.1 45).toInt) (htcount1 : (σ.1 45).toInt ≤ 700) (hlength0 : 0 ≤ (σ.1 66).toInt) (hlength1 : (σ.1 66).toInt ≤ 700) (hnumbers0 : 0 ≤ (σ.1 65).toInt) (hnumbers1 : (σ.1 65).toInt ≤ 350) (hnames0 : 0 ≤ (σ.1 68).toInt) (hnames1 : (σ.1 68).toInt ≤ 24) : Met l yX5_sum v_z_sum ({ frames := 60, cells := 0, slots := 0, locals := 1800 } : Room) (va_Pc [.ref (ad 30)] (xPre D (xT y) (prw y ad σ) sz)) (va_Qi (fun (r : Int32) (u : Int32 × Int32 × Int32 × Int32 × Int32 × (Nat → Int32) × Int32 × (Nat → Int32) × Int32) => 0 ≤ u.2.2.2.2.1.toInt ∧ u.2.2.2.2.1.toInt ≤ 8 ∧ 0 ≤ u.2.2.2.2.2.2.2.2.toInt ∧ u.2.2.2.2.2.2.2.2.toInt ≤ 700 ∧ 0 ≤ u.2.2.2.2.2.2.1.toInt ∧ u.2.2.2.2.2.2.1.toInt ≤ 350 ∧ (r.toInt = 0 ∨ r.toInt = 1) ∧ (r.toInt = 1 → u.2.2.2.2.1.toInt = (σ.1 35).toInt)) (fun (u : Int32 × Int32 × Int32 × Int32 × Int32 × (Nat → Int32) × Int32 × (Nat → Int32) × Int32) => xB D (xT y) (va_A (prw y ad σ) sz) (prw y ad (sI (tI (sI (tI (sI (sI (sI (sI (sI σ 36 u.1) 37 u.2.1) 33 u.2.2.1) 34 u.2.2.2.1) 35 u.2.2.2.2.1) 71 u.2.2.2.2.2.1) 65 u.2.2.2.2.2.2.1) 72 u.2.2.2.2.2.2.2.1) 66 u.2.2.2.2.2.2.2.2))) (va_A (prw y ad σ) sz)) 0 0 (va_A (prw y ad σ) sz) := by
  exact C_sum_all 8 l D y sz ad σ (by omega) hopen0 hopen1 htcount0 htcount1 hlength0 hlength1 hnumbers0 hnumbers1 hnames0 hnames1
abbrev v_z_index : List Cond := v_z_indexR
theorem z_index (l : Launch) (D : va_G) (y : Nat → ClassId) (sz : Nat) (ad : Nat → Nat) (σ : OS) (hopen0 : 0 ≤ (σ.1 35).toInt) (hopen1 : (σ.1 35).toInt ≤ 8) (htcount0 : 0 ≤ (σ.1 45).toInt) (htcount1 : (σ.1 45).toInt ≤ 700) (hlength0 : 0 ≤ (σ.1 66).toInt) (hlength1 : (σ.1 66).toInt ≤ 700) (hnumbers0 : 0 ≤ (σ.1 65).toInt) (hnumbers1 : (σ.1 65).toInt ≤ 350) (hnames0 : 0 ≤ (σ.1 68).toInt) (hnames1 : (σ.1 68).toInt ≤ 24) : Met l yX5_index v_z_index ({ frames := 56, cells := 0, slots := 0, locals := 1680 } : Room) (va_Pc [.ref (ad 30)] (xPre D (xT y) (prw y ad σ) sz)) (va_Qi (fun (r : Int32) (u : Int32 × Int32 × Int32 × Int32 × Int32 × (Nat → Int32) × Int32 × (Nat → Int32) × Int32) => 0 ≤ u.2.2.2.2.1.toInt ∧ u.2.2.2.2.1.toInt ≤ 8 ∧ 0 ≤ u.2.2.2.2.2.2.2.2.toInt ∧ u.2.2.2.2.2.2.2.2.toInt ≤ 700 ∧ 0 ≤ u.2.2.2.2.2.2.1.toInt ∧ u.2.2.2.2.2.2.1.toInt ≤ 350 ∧ (r.toInt = 0 ∨ r.toInt = 1) ∧ (r.toInt = 1 → u.2.2.2.2.1.toInt = (σ.1 35).toInt)) (fun (u : Int32 × Int32 × Int32 × Int32 × Int32 × (Nat → Int32) × Int32 × (Nat → Int32) × Int32) => xB D (xT y) (va_A (prw y ad σ) sz) (prw y ad (sI (tI (sI (tI (sI (sI (sI (sI (sI σ 36 u.1) 37 u.2.1) 33 u.2.2.1) 34 u.2.2.2.1) 35 u.2.2.2.2.1) 71 u.2.2.2.2.2.1) 65 u.2.2.2.2.2.2.1) 72 u.2.2.2.2.2.2.2.1) 66 u.2.2.2.2.2.2.2.2))) (va_A (prw y ad σ) sz)) 0 0 (va_A (prw y ad σ) sz) := by
  exact z_indexR l D y sz ad σ 8 (fun e _ => C_sum_all e) (by omega) hopen0 hopen1 htcount0 htcount1 hlength0 hlength1 hnumbers0 hnumbers1 hnames0 hnames1
abbrev CLt : List Cond := ([.methodLink RX5 173 yX5_both, .instanceMethod yX5_both, .selects RX5 yX5_both yX5_both, .initialized RX5, .code yX5_both cX5_both 2 (some .boolean), .fieldLink RX5 45 "SlopeRunner$Parser" "kind" "I", .fieldLink RX5 34 "SlopeRunner$Parser" "into" "LSlopeRunner$Program;", .methodLink RX5 178 yX5_fact, .instanceMethod yX5_fact, .selects RX5 yX5_fact yX5_fact, .code yX5_fact cX5_fact 2 (some .boolean), .methodLink RX5 158 yX5_test, .instanceMethod yX5_test, .selects RX5 yX5_test yX5_test, .code yX5_test cX5_test 2 (some .boolean), .fieldLink RX5 48 "SlopeRunner$Parser" "open" "I"] ++ ((wsV RX5 86 RX5 yX5_pass v_z_pass) ++ ((wsV RX5 155 RX6 yX6_emit v_w_emit) ++ ((wsV RX5 145 RX5 yX5_sum v_z_sum) ++ ((wsV RX5 181 RX5 yX5_kindOfSign v_z_kindOfSign) ++ ((wsV RX5 61 RX5 yX5_refuse v_z_refuse) ++ ((wsV RX5 167 RX5 yX5_openWith v_z_openWith) ++ ((wsV RX5 170 RX5 yX5_closeWith v_z_closeWith) ++ wsX50))))))))
theorem hCLt : GoodIn CLt CLt := goodIn_sub (fun w h => h) (by decide +kernel)
theorem gCLt_0 : GoodIn CLt (wsV RX5 86 RX5 yX5_pass v_z_pass) := fun w hw => hCLt w ((fun w h => (List.mem_append_right _ (List.mem_append_left _ h))) w hw)
theorem gCLt_1 : GoodIn CLt (wsV RX5 155 RX6 yX6_emit v_w_emit) := fun w hw => hCLt w ((fun w h => (List.mem_append_right _ (List.mem_append_right _ (List.mem_append_left _ h)))) w hw)
theorem gCLt_2 : GoodIn CLt (wsV RX5 145 RX5 yX5_sum v_z_sum) := fun w hw => hCLt w ((fun w h => (List.mem_append_right _ (List.mem_append_right _ (List.mem_append_right _ (List.mem_append_left _ h))))) w hw)
theorem gCLt_3 : GoodIn CLt (wsV RX5 181 RX5 yX5_kindOfSign v_z_kindOfSign) := fun w hw => hCLt w ((fun w h => (List.mem_append_right _ (List.mem_append_right _ (List.mem_append_right _ (List.mem_append_right _ (List.mem_append_left _ h)))))) w hw)
theorem gCLt_4 : GoodIn CLt (wsV RX5 61 RX5 yX5_refuse v_z_refuse) := fun w hw => hCLt w ((fun w h => (List.mem_append_right _ (List.mem_append_right _ (List.mem_append_right _ (List.mem_append_right _ (List.mem_append_right _ (List.mem_append_left _ h))))))) w hw)
theorem gCLt_5 : GoodIn CLt (wsV RX5 167 RX5 yX5_openWith v_z_openWith) := fun w hw => hCLt w ((fun w h => (List.mem_append_right _ (List.mem_append_right _ (List.mem_append_right _ (List.mem_append_right _ (List.mem_append_right _ (List.mem_append_right _ (List.mem_append_left _ h)))))))) w hw)
theorem gCLt_6 : GoodIn CLt (wsV RX5 170 RX5 yX5_closeWith v_z_closeWith) := fun w hw => hCLt w ((fun w h => (List.mem_append_right _ (List.mem_append_right _ (List.mem_append_right _ (List.mem_append_right _ (List.mem_append_right _ (List.mem_append_right _ (List.mem_append_right _ (List.mem_append_left _ h))))))))) w hw)
abbrev v_z_factR : List Cond := .code yX5_fact cX5_fact 2 (some .boolean) :: CLt
abbrev v_z_bothR : List Cond := .code yX5_both cX5_both 2 (some .boolean) :: CLt
abbrev v_z_testR : List Cond := .code yX5_test cX5_test 2 (some .boolean) :: CLt
def C_test (d : Nat) : Prop := ∀ (l : Launch) (D : va_G) (y : Nat → ClassId) (sz : Nat) (ad : Nat → Nat) (σ : OS) (hdp : 8 - (σ.1 35).toInt ≤ (d : Int)) (hopen0 : 0 ≤ (σ.1 35).toInt) (hopen1 : (σ.1 35).toInt ≤ 8) (htcount0 : 0 ≤ (σ.1 45).toInt) (htcount1 : (σ.1 45).toInt ≤ 700) (hlength0 : 0 ≤ (σ.1 66).toInt) (hlength1 : (σ.1 66).toInt ≤ 700) (hnumbers0 : 0 ≤ (σ.1 65).toInt) (hnumbers1 : (σ.1 65).toInt ≤ 350) (hnames0 : 0 ≤ (σ.1 68).toInt) (hnames1 : (σ.1 68).toInt ≤ 24), Met l yX5_test v_z_testR ({ frames := 3 * d + 70, cells := 0, slots := 0, locals := 90 * d + 2000 } : Room) (va_Pc [.ref (ad 30)] (xPre D (xT y) (prw y ad σ) sz)) (va_Qi (fun (r : Int32) (u : Int32 × Int32 × Int32 × Int32 × Int32 × (Nat → Int32) × Int32 × (Nat → Int32) × Int32) => 0 ≤ u.2.2.2.2.1.toInt ∧ u.2.2.2.2.1.toInt ≤ 8 ∧ 0 ≤ u.2.2.2.2.2.2.2.2.toInt ∧ u.2.2.2.2.2.2.2.2.toInt ≤ 700 ∧ 0 ≤ u.2.2.2.2.2.2.1.toInt ∧ u.2.2.2.2.2.2.1.toInt ≤ 350 ∧ (r.toInt = 0 ∨ r.toInt = 1) ∧ (r.toInt = 1 → u.2.2.2.2.1.toInt = (σ.1 35).toInt)) (fun (u : Int32 × Int32 × Int32 × Int32 × Int32 × (Nat → Int32) × Int32 × (Nat → Int32) × Int32) => xB D (xT y) (va_A (prw y ad σ) sz) (prw y ad (sI (tI (sI (tI (sI (sI (sI (sI (sI σ 36 u.1) 37 u.2.1) 33 u.2.2.1) 34 u.2.2.2.1) 35 u.2.2.2.2.1) 71 u.2.2.2.2.2.1) 65 u.2.2.2.2.2.2.1) 72 u.2.2.2.2.2.2.2.1) 66 u.2.2.2.2.2.2.2.2))) (va_A (prw y ad σ) sz)) 0 0 (va_A (prw y ad σ) sz)
def C_fact (d : Nat) : Prop := ∀ (l : Launch) (D : va_G) (y : Nat → ClassId) (sz : Nat) (ad : Nat → Nat) (σ : OS) (hdp : 8 - (σ.1 35).toInt ≤ (d : Int)) (hopen0 : 0 ≤ (σ.1 35).toInt) (hopen1 : (σ.1 35).toInt ≤ 8) (htcount0 : 0 ≤ (σ.1 45).toInt) (htcount1 : (σ.1 45).toInt ≤ 700) (hlength0 : 0 ≤ (σ.1 66).toInt) (hlength1 : (σ.1 66).toInt ≤ 700) (hnumbers0 : 0 ≤ (σ.1 65).toInt) (hnumbers1 : (σ.1 65).toInt ≤ 350) (hnames0 : 0 ≤ (σ.1 68).toInt) (hnames1 : (σ.1 68).toInt ≤ 24), Met l yX5_fact v_z_factR ({ frames := 3 * d + 68, cells := 0, slots := 0, locals := 90 * d + 1940 } : Room) (va_Pc [.ref (ad 30)] (xPre D (xT y) (prw y ad σ) sz)) (va_Qi (fun (r : Int32) (u : Int32 × Int32 × Int32 × Int32 × Int32 × (Nat → Int32) × Int32 × (Nat → Int32) × Int32) => 0 ≤ u.2.2.2.2.1.toInt ∧ u.2.2.2.2.1.toInt ≤ 8 ∧ 0 ≤ u.2.2.2.2.2.2.2.2.toInt ∧ u.2.2.2.2.2.2.2.2.toInt ≤ 700 ∧ 0 ≤ u.2.2.2.2.2.2.1.toInt ∧ u.2.2.2.2.2.2.1.toInt ≤ 350 ∧ (r.toInt = 0 ∨ r.toInt = 1) ∧ (r.toInt = 1 → u.2.2.2.2.1.toInt = (σ.1 35).toInt)) (fun (u : Int32 × Int32 × Int32 × Int32 × Int32 × (Nat → Int32) × Int32 × (Nat → Int32) × Int32) => xB D (xT y) (va_A (prw y ad σ) sz) (prw y ad (sI (tI (sI (tI (sI (sI (sI (sI (sI σ 36 u.1) 37 u.2.1) 33 u.2.2.1) 34 u.2.2.2.1) 35 u.2.2.2.2.1) 71 u.2.2.2.2.2.1) 65 u.2.2.2.2.2.2.1) 72 u.2.2.2.2.2.2.2.1) 66 u.2.2.2.2.2.2.2.2))) (va_A (prw y ad σ) sz)) 0 0 (va_A (prw y ad σ) sz)
set_option maxHeartbeats 4000000 in
set_option maxRecDepth 100000 in
theorem z_factR (l : Launch) (D : va_G) (y : Nat → ClassId) (sz : Nat) (ad : Nat → Nat) (σ : OS) (d : Nat) (iht : ∀ e : Nat, d = e + 1 → C_test e) (ihf : ∀ e : Nat, d = e + 1 → C_fact e) (hdp : 8 - (σ.1 35).toInt ≤ (d : Int)) (hopen0 : 0 ≤ (σ.1 35).toInt) (hopen1 : (σ.1 35).toInt ≤ 8) (htcount0 : 0 ≤ (σ.1 45).toInt) (htcount1 : (σ.1 45).toInt ≤ 700) (hlength0 : 0 ≤ (σ.1 66).toInt) (hlength1 : (σ.1 66).toInt ≤ 700) (hnumbers0 : 0 ≤ (σ.1 65).toInt) (hnumbers1 : (σ.1 65).toInt ≤ 350) (hnames0 : 0 ≤ (σ.1 68).toInt) (hnames1 : (σ.1 68).toInt ≤ 24) : Met l yX5_fact v_z_factR ({ frames := 3 * d + 68, cells := 0, slots := 0, locals := 90 * d + 1940 } : Room) (va_Pc [.ref (ad 30)] (xPre D (xT y) (prw y ad σ) sz)) (va_Qi (fun (r : Int32) (u : Int32 × Int32 × Int32 × Int32 × Int32 × (Nat → Int32) × Int32 × (Nat → Int32) × Int32) => 0 ≤ u.2.2.2.2.1.toInt ∧ u.2.2.2.2.1.toInt ≤ 8 ∧ 0 ≤ u.2.2.2.2.2.2.2.2.toInt ∧ u.2.2.2.2.2.2.2.2.toInt ≤ 700 ∧ 0 ≤ u.2.2.2.2.2.2.1.toInt ∧ u.2.2.2.2.2.2.1.toInt ≤ 350 ∧ (r.toInt = 0 ∨ r.toInt = 1) ∧ (r.toInt = 1 → u.2.2.2.2.1.toInt = (σ.1 35).toInt)) (fun (u : Int32 × Int32 × Int32 × Int32 × Int32 × (Nat → Int32) × Int32 × (Nat → Int32) × Int32) => xB D (xT y) (va_A (prw y ad σ) sz) (prw y ad (sI (tI (sI (tI (sI (sI (sI (sI (sI σ 36 u.1) 37 u.2.1) 33 u.2.2.1) 34 u.2.2.2.1) 35 u.2.2.2.2.1) 71 u.2.2.2.2.2.1) 65 u.2.2.2.2.2.2.1) 72 u.2.2.2.2.2.2.2.1) 66 u.2.2.2.2.2.2.2.2))) (va_A (prw y ad σ) sz)) 0 0 (va_A (prw y ad σ) sz) := by
  refine x_meti (cc := cX5_fact) (maxL := 2) (by decide) rfl (Nat.le_of_ble_eq_true rfl) ?_
  intro p e s m below meth c A H locs Q hx hb hml hown hts hr hlocks hmn hA hP hK hD hS ls hl hQ
  have hl : lv_has ls 2 [(0, .ref (ad 30))] := hl
  have fl45 := hts (.fieldLink RX5 45 "SlopeRunner$Parser" "kind" "I") (List.mem_of_getElem? (i := 6) rfl)
  have inX5 : ∀ w ∈ wsX50, w ∈ v_z_factR := (fun w h => List.mem_cons_of_mem _ (List.mem_append_right _ (List.mem_append_right _ (List.mem_append_right _ (List.mem_append_right _ (List.mem_append_right _ (List.mem_append_right _ (List.mem_append_right _ (List.mem_append_right _ h)))))))))
  have kk_91 : (91 : Int32).toInt = 91 := rfl
  have kk_272 : (272 : Int32).toInt = 272 := rfl
  have kk_0 : (0 : Int32).toInt = 0 := rfl
  have kk_m1 : ((-1) : Int32).toInt = -1 := rfl
  have fl34 := hts (.fieldLink RX5 34 "SlopeRunner$Parser" "into" "LSlopeRunner$Program;") (List.mem_of_getElem? (i := 7) rfl)
  have kk_1 : (1 : Int32).toInt = 1 := rfl
  have fl48 := hts (.fieldLink RX5 48 "SlopeRunner$Parser" "open" "I") (List.mem_of_getElem? (i := 16) rfl)
  have kk_16 : (16 : Int32).toInt = 16 := rfl
  have kk_93 : (93 : Int32).toInt = 93 := rfl
  refine lv_aload_n hx hb dX5_fact_0 rfl (lv_at hl 0 rfl) ?_
  refine va_get (D := D) (ci := 4) (v := .int (σ.1 34)) (C := RX5) (T := TX5) (N := 8) hx hb hts inX5 hown hK hP 0 prw_o0 rfl 3 (by decide) fl45 (fun _ h9 => h9) rfl dX5_fact_1 ?_
  refine lv_bipush (v := 91) hx hb dX5_fact_4 (by decide) ?_
  refine lv_icmp_ne (tgt := 40) hx hb dX5_fact_6 (by decide) (fun c_1 => ?_) (fun c_1 => ?_)
  · have kc_1 : (σ.1 34).toInt ≠ 91 := by have h9 := c_1; simp only [ge_iff_le, gt_iff_lt, x_lt, x_le, x_eq, ne_eq, Int32.not_lt, Int32.not_le] at h9; simp only [Int32.reduceToInt] at h9; omega
    refine lv_aload_n hx hb dX5_fact_40 rfl (lv_at hl 0 rfl) ?_
    refine va_get (D := D) (ci := 4) (v := .int (σ.1 34)) (C := RX5) (T := TX5) (N := 8) hx hb hts inX5 hown hK hP 0 prw_o0 rfl 3 (by decide) fl45 (fun _ h9 => h9) rfl dX5_fact_41 ?_
    refine lv_sipush (v := 272) hx hb dX5_fact_44 (by decide) ?_
    refine lv_icmp_ne (tgt := 91) hx hb dX5_fact_47 (by decide) (fun c_2 => ?_) (fun c_2 => ?_)
    · have kc_2 : (σ.1 34).toInt ≠ 272 := by have h9 := c_2; simp only [ge_iff_le, gt_iff_lt, x_lt, x_le, x_eq, ne_eq, Int32.not_lt, Int32.not_le] at h9; simp only [Int32.reduceToInt] at h9; omega
      refine lv_aload_n hx hb dX5_fact_91 rfl (lv_at hl 0 rfl) ?_
      refine x_calliW (va_runV (As := []) (rest := []) ⟨hx, hb, hml, hown, hts⟩ (z_sum l D y H.size ad σ (show 0 ≤ ((σ.1 35)).toInt from by first | omega | decide) (show ((σ.1 35)).toInt ≤ 8 from by first | omega | decide) (show 0 ≤ ((σ.1 45)).toInt from by first | omega | decide) (show ((σ.1 45)).toInt ≤ 700 from by first | omega | decide) (show 0 ≤ ((σ.1 66)).toInt from by first | omega | decide) (show ((σ.1 66)).toInt ≤ 700 from by first | omega | decide) (show 0 ≤ ((σ.1 65)).toInt from by first | omega | decide) (show ((σ.1 65)).toInt ≤ 350 from by first | omega | decide) (show 0 ≤ ((σ.1 68)).toInt from by first | omega | decide) (show ((σ.1 68)).toInt ≤ 24 from by first | omega | decide)) (cwV 0 hts (goodIn_cons gCLt_2) rfl rfl rfl (by decide +kernel) ⟨by (try dsimp only); omega, by (try dsimp only); omega⟩) (x_preV (q := (RX5, TX5, 8)) hK hP hD (ci := 4) (q0 := 0) rfl prw_o0) rfl rfl hl.1 rfl (lv_room (Nat.le_of_ble_eq_true rfl)) dX5_fact_92 ⟨Nat.le_of_ble_eq_true rfl, Nat.le_of_ble_eq_true rfl⟩) hP hD hS hA (fun r_3 u H locs hw hP hD hS => ?_)
      obtain ⟨n_4, n_5, n_6, n_7, n_8, f_9, n_10, f_11, n_12⟩ := u
      try dsimp only at hw
      have hP : va_P D vwCl (prw y ad (sI (tI (sI (tI (sI (sI (sI (sI (sI σ 36 n_4) 37 n_5) 33 n_6) 34 n_7) 35 n_8) 71 f_9) 65 n_10) 72 f_11) 66 n_12)) H := hP
      have hD : va_D A (prw y ad (sI (tI (sI (tI (sI (sI (sI (sI (sI σ 36 n_4) 37 n_5) 33 n_6) 34 n_7) 35 n_8) 71 f_9) 65 n_10) 72 f_11) 66 n_12)) := hD
      replace hw : 0 ≤ n_8.toInt ∧ n_8.toInt ≤ 8 ∧ 0 ≤ n_12.toInt ∧ n_12.toInt ≤ 700 ∧ 0 ≤ n_10.toInt ∧ n_10.toInt ≤ 350 ∧ (r_3.toInt = 0 ∨ r_3.toInt = 1) ∧ (r_3.toInt = 1 → n_8.toInt = ((σ.1 35)).toInt) := hw
      obtain ⟨ho1, hp1, hq1, hr1, hs1, ht1, hu1, hv1⟩ := hw
      have hw := hu1
      refine lv_if_ne (tgt := 100) hx hb dX5_fact_95 (by decide) (fun c_13 => ?_) (fun c_13 => ?_)
      · have kc_13 : r_3.toInt ≠ 0 := by have h9 := c_13; simp only [ge_iff_le, gt_iff_lt, x_lt, x_le, x_eq, ne_eq, Int32.not_lt, Int32.not_le] at h9; simp only [Int32.reduceToInt] at h9; omega
        refine lv_aload_n hx hb dX5_fact_100 rfl (lv_at hl 0 rfl) ?_
        refine x_calliW (va_runV (As := []) (rest := []) ⟨hx, hb, hml, hown, hts⟩ (z_kindOfSign l D y H.size ad (sI (tI (sI (tI (sI (sI (sI (sI (sI σ 36 n_4) 37 n_5) 33 n_6) 34 n_7) 35 n_8) 71 f_9) 65 n_10) 72 f_11) 66 n_12) ) (cwV 0 hts (goodIn_cons gCLt_3) rfl rfl rfl (by decide +kernel) ⟨by (try dsimp only); omega, by (try dsimp only); omega⟩) (x_preV (q := (RX5, TX5, 8)) hK hP hD (ci := 4) (q0 := 0) rfl prw_o0) rfl rfl hl.1 rfl (lv_room (Nat.le_of_ble_eq_true rfl)) dX5_fact_101 ⟨Nat.le_of_ble_eq_true rfl, Nat.le_of_ble_eq_true rfl⟩) hP hD hS hA (fun r_14 u H locs hw hP hD hS => ?_)
        try dsimp only at hw
        have hP : va_P D vwCl (prw y ad (sI (tI (sI (tI (sI (sI (sI (sI (sI σ 36 n_4) 37 n_5) 33 n_6) 34 n_7) 35 n_8) 71 f_9) 65 n_10) 72 f_11) 66 n_12)) H := hP
        have hD : va_D A (prw y ad (sI (tI (sI (tI (sI (sI (sI (sI (sI σ 36 n_4) 37 n_5) 33 n_6) 34 n_7) 35 n_8) 71 f_9) 65 n_10) 72 f_11) 66 n_12)) := hD
        refine lv_istore_n (lv' := [(1, .int r_14), (0, .ref (ad 30))]) hx hb dX5_fact_104 rfl hl (by decide) rfl (fun ls hl => ?_)
        refine lv_iload_n hx hb dX5_fact_105 rfl (lv_at hl 0 rfl) ?_
        refine lv_iconst (v := (-1)) hx hb dX5_fact_106 (by decide) ?_
        refine lv_icmp_ne (tgt := 116) hx hb dX5_fact_107 (by decide) (fun c_15 => ?_) (fun c_15 => ?_)
        · have kc_15 : r_14.toInt ≠ (-1) := by have h9 := c_15; simp only [ge_iff_le, gt_iff_lt, x_lt, x_le, x_eq, ne_eq, Int32.not_lt, Int32.not_le] at h9; simp only [Int32.reduceToInt] at h9; omega
          refine lv_aload_n hx hb dX5_fact_116 rfl (lv_at hl 1 rfl) ?_
          refine x_callvW (va_runV (As := []) (rest := []) ⟨hx, hb, hml, hown, hts⟩ (z_pass l D y H.size ad (sI (tI (sI (tI (sI (sI (sI (sI (sI σ 36 n_4) 37 n_5) 33 n_6) 34 n_7) 35 n_8) 71 f_9) 65 n_10) 72 f_11) 66 n_12) (show 0 ≤ ((σ.1 45)).toInt from by first | omega | decide) (show ((σ.1 45)).toInt ≤ 700 from by first | omega | decide)) (cwV 0 hts (goodIn_cons gCLt_0) rfl rfl rfl (by decide +kernel) ⟨by (try dsimp only); omega, by (try dsimp only); omega⟩) (x_preV (q := (RX5, TX5, 8)) hK hP hD (ci := 4) (q0 := 0) rfl prw_o0) rfl rfl hl.1 rfl (lv_room (Nat.le_of_ble_eq_true rfl)) dX5_fact_117 ⟨Nat.le_of_ble_eq_true rfl, Nat.le_of_ble_eq_true rfl⟩) hP hD hS hA (fun u H locs hw hP hD hS => ?_)
          obtain ⟨n_16, n_17⟩ := u
          try dsimp only at hw
          have hP : va_P D vwCl (prw y ad (sI (sI (sI (tI (sI (tI (sI (sI (sI (sI (sI σ 36 n_4) 37 n_5) 33 n_6) 34 n_7) 35 n_8) 71 f_9) 65 n_10) 72 f_11) 66 n_12) 33 n_16) 34 n_17)) H := hP
          have hD : va_D A (prw y ad (sI (sI (sI (tI (sI (tI (sI (sI (sI (sI (sI σ 36 n_4) 37 n_5) 33 n_6) 34 n_7) 35 n_8) 71 f_9) 65 n_10) 72 f_11) 66 n_12) 33 n_16) 34 n_17)) := hD
          replace hw : True := hw
          refine lv_aload_n hx hb dX5_fact_120 rfl (lv_at hl 1 rfl) ?_
          refine x_calliW (va_runV (As := []) (rest := []) ⟨hx, hb, hml, hown, hts⟩ (z_sum l D y H.size ad (sI (sI (sI (tI (sI (tI (sI (sI (sI (sI (sI σ 36 n_4) 37 n_5) 33 n_6) 34 n_7) 35 n_8) 71 f_9) 65 n_10) 72 f_11) 66 n_12) 33 n_16) 34 n_17) (show 0 ≤ (n_8).toInt from by first | omega | decide) (show (n_8).toInt ≤ 8 from by first | omega | decide) (show 0 ≤ ((σ.1 45)).toInt from by first | omega | decide) (show ((σ.1 45)).toInt ≤ 700 from by first | omega | decide) (show 0 ≤ (n_12).toInt from by first | omega | decide) (show (n_12).toInt ≤ 700 from by first | omega | decide) (show 0 ≤ (n_10).toInt from by first | omega | decide) (show (n_10).toInt ≤ 350 from by first | omega | decide) (show 0 ≤ ((σ.1 68)).toInt from by first | omega | decide) (show ((σ.1 68)).toInt ≤ 24 from by first | omega | decide)) (cwV 0 hts (goodIn_cons gCLt_2) rfl rfl rfl (by decide +kernel) ⟨by (try dsimp only); omega, by (try dsimp only); omega⟩) (x_preV (q := (RX5, TX5, 8)) hK hP hD (ci := 4) (q0 := 0) rfl prw_o0) rfl rfl hl.1 rfl (lv_room (Nat.le_of_ble_eq_true rfl)) dX5_fact_121 ⟨Nat.le_of_ble_eq_true rfl, Nat.le_of_ble_eq_true rfl⟩) hP hD hS hA (fun r_18 u H locs hw hP hD hS => ?_)
          obtain ⟨n_19, n_20, n_21, n_22, n_23, f_24, n_25, f_26, n_27⟩ := u
          try dsimp only at hw
          have hP : va_P D vwCl (prw y ad (sI (tI (sI (tI (sI (sI (sI (sI (sI (sI (sI (sI (tI (sI (tI (sI (sI (sI (sI (sI σ 36 n_4) 37 n_5) 33 n_6) 34 n_7) 35 n_8) 71 f_9) 65 n_10) 72 f_11) 66 n_12) 33 n_16) 34 n_17) 36 n_19) 37 n_20) 33 n_21) 34 n_22) 35 n_23) 71 f_24) 65 n_25) 72 f_26) 66 n_27)) H := hP
          have hD : va_D A (prw y ad (sI (tI (sI (tI (sI (sI (sI (sI (sI (sI (sI (sI (tI (sI (tI (sI (sI (sI (sI (sI σ 36 n_4) 37 n_5) 33 n_6) 34 n_7) 35 n_8) 71 f_9) 65 n_10) 72 f_11) 66 n_12) 33 n_16) 34 n_17) 36 n_19) 37 n_20) 33 n_21) 34 n_22) 35 n_23) 71 f_24) 65 n_25) 72 f_26) 66 n_27)) := hD
          replace hw : 0 ≤ n_23.toInt ∧ n_23.toInt ≤ 8 ∧ 0 ≤ n_27.toInt ∧ n_27.toInt ≤ 700 ∧ 0 ≤ n_25.toInt ∧ n_25.toInt ≤ 350 ∧ (r_18.toInt = 0 ∨ r_18.toInt = 1) ∧ (r_18.toInt = 1 → n_23.toInt = (n_8).toInt) := hw
          obtain ⟨ho2, hp2, hq2, hr2, hs2, ht2, hu2, hv2⟩ := hw
          have hw := hu2
          refine lv_if_ne (tgt := 129) hx hb dX5_fact_124 (by decide) (fun c_28 => ?_) (fun c_28 => ?_)
          · have kc_28 : r_18.toInt ≠ 0 := by have h9 := c_28; simp only [ge_iff_le, gt_iff_lt, x_lt, x_le, x_eq, ne_eq, Int32.not_lt, Int32.not_le] at h9; simp only [Int32.reduceToInt] at h9; omega
            refine lv_aload_n hx hb dX5_fact_129 rfl (lv_at hl 1 rfl) ?_
            refine va_get (D := D) (ci := 4) (v := .ref (ad 60)) (C := RX5) (T := TX5) (N := 8) hx hb hts inX5 hown hK hP 0 prw_o0 rfl 1 (by decide) fl34 (fun _ h9 => h9) rfl dX5_fact_130 ?_
            refine lv_iload_n hx hb dX5_fact_133 rfl (lv_at hl 0 rfl) ?_
            refine lv_iconst (v := 0) hx hb dX5_fact_134 (by decide) ?_
            have hPs : va_P D vwCl (pgw y ad (sI (tI (sI (tI (sI (sI (sI (sI (sI (sI (sI (sI (tI (sI (tI (sI (sI (sI (sI (sI σ 36 n_4) 37 n_5) 33 n_6) 34 n_7) 35 n_8) 71 f_9) 65 n_10) 72 f_11) 66 n_12) 33 n_16) 34 n_17) 36 n_19) 37 n_20) 33 n_21) 34 n_22) 35 n_23) 71 f_24) 65 n_25) 72 f_26) 66 n_27)) H := x_suP hP [2, 7, 8, 9, 10, 11, 12] rfl
            have hDs : va_D A (pgw y ad (sI (tI (sI (tI (sI (sI (sI (sI (sI (sI (sI (sI (tI (sI (tI (sI (sI (sI (sI (sI σ 36 n_4) 37 n_5) 33 n_6) 34 n_7) 35 n_8) 71 f_9) 65 n_10) 72 f_11) 66 n_12) 33 n_16) 34 n_17) 36 n_19) 37 n_20) 33 n_21) 34 n_22) 35 n_23) 71 f_24) 65 n_25) 72 f_26) 66 n_27)) := x_suD hD [2, 7, 8, 9, 10, 11, 12] rfl (by decide)
            refine x_callvS (b1 := fun (u : (Nat → Int32) × Int32) => (prw y ad (sI (tI (sI (tI (sI (tI (sI (sI (sI (sI (sI (sI (sI (sI (tI (sI (tI (sI (sI (sI (sI (sI σ 36 n_4) 37 n_5) 33 n_6) 34 n_7) 35 n_8) 71 f_9) 65 n_10) 72 f_11) 66 n_12) 33 n_16) 34 n_17) 36 n_19) 37 n_20) 33 n_21) 34 n_22) 35 n_23) 71 f_24) 65 n_25) 72 f_26) 66 n_27) 72 u.1) 66 u.2))) [2, 7, 8, 9, 10, 11, 12] (va_runV (As := [.int r_14, .int 0]) (rest := []) ⟨hx, hb, hml, hown, hts⟩ (w_emit l D y H.size ad (sI (tI (sI (tI (sI (sI (sI (sI (sI (sI (sI (sI (tI (sI (tI (sI (sI (sI (sI (sI σ 36 n_4) 37 n_5) 33 n_6) 34 n_7) 35 n_8) 71 f_9) 65 n_10) 72 f_11) 66 n_12) 33 n_16) 34 n_17) 36 n_19) 37 n_20) 33 n_21) 34 n_22) 35 n_23) 71 f_24) 65 n_25) 72 f_26) 66 n_27) r_14 0 (show 0 ≤ (n_27).toInt from by first | omega | decide) (show (n_27).toInt ≤ 700 from by first | omega | decide)) (cwV 2 hts (goodIn_cons gCLt_1) rfl rfl rfl (by decide +kernel) ⟨by (try dsimp only); omega, by (try dsimp only); omega⟩) (x_preV (q := (RX6, TX6, 13)) hK hPs hDs (ci := 5) (q0 := 0) rfl pgw_o0) rfl rfl hl.1 rfl (lv_room (Nat.le_of_ble_eq_true rfl)) dX5_fact_135 ⟨Nat.le_of_ble_eq_true rfl, Nat.le_of_ble_eq_true rfl⟩) hP hD hS hA rfl (fun _ => rfl) (fun _ => rfl) (fun _ => rfl) (fun u H locs hw hP hD hS => ?_)
            obtain ⟨f_29, n_30⟩ := u
            try dsimp only at hw
            have hP : va_P D vwCl (prw y ad (sI (tI (sI (tI (sI (tI (sI (sI (sI (sI (sI (sI (sI (sI (tI (sI (tI (sI (sI (sI (sI (sI σ 36 n_4) 37 n_5) 33 n_6) 34 n_7) 35 n_8) 71 f_9) 65 n_10) 72 f_11) 66 n_12) 33 n_16) 34 n_17) 36 n_19) 37 n_20) 33 n_21) 34 n_22) 35 n_23) 71 f_24) 65 n_25) 72 f_26) 66 n_27) 72 f_29) 66 n_30)) H := hP
            have hD : va_D A (prw y ad (sI (tI (sI (tI (sI (tI (sI (sI (sI (sI (sI (sI (sI (sI (tI (sI (tI (sI (sI (sI (sI (sI σ 36 n_4) 37 n_5) 33 n_6) 34 n_7) 35 n_8) 71 f_9) 65 n_10) 72 f_11) 66 n_12) 33 n_16) 34 n_17) 36 n_19) 37 n_20) 33 n_21) 34 n_22) 35 n_23) 71 f_24) 65 n_25) 72 f_26) 66 n_27) 72 f_29) 66 n_30)) := hD
            replace hw : 0 ≤ n_30.toInt ∧ n_30.toInt ≤ 700 := hw
            refine lv_iconst (v := 1) hx hb dX5_fact_138 (by decide) ?_
            have hP : va_P D vwCl (prw y ad (sI (tI (sI (tI (sI (sI (sI (sI (sI σ 36 n_19) 37 n_20) 33 n_21) 34 n_22) 35 n_23) 71 f_24) 65 n_25) 72 f_29) 66 n_30)) H := hP
            have hD : va_D A (prw y ad (sI (tI (sI (tI (sI (sI (sI (sI (sI σ 36 n_19) 37 n_20) 33 n_21) 34 n_22) 35 n_23) 71 f_24) 65 n_25) 72 f_29) 66 n_30)) := hD
            exact x_zretW (v := 1) (u := (n_19, n_20, n_21, n_22, n_23, f_24, n_25, f_29, n_30)) hx hb hr hQ rfl (by (try dsimp only); exact ⟨by omega, by omega, by omega, by omega, by omega, by omega, by first | decide | omega, by first | omega | exact fun h9 => absurd h9 (by decide)⟩) hP hD hK hS dX5_fact_139 hlocks
          · have kc_28 : r_18.toInt = 0 := by have h9 := c_28; simp only [ge_iff_le, gt_iff_lt, x_lt, x_le, x_eq, ne_eq, Int32.not_lt, Int32.not_le] at h9; simp only [Int32.reduceToInt] at h9; omega
            refine lv_iconst (v := 0) hx hb dX5_fact_127 (by decide) ?_
            have hP : va_P D vwCl (prw y ad (sI (tI (sI (tI (sI (sI (sI (sI (sI σ 36 n_19) 37 n_20) 33 n_21) 34 n_22) 35 n_23) 71 f_24) 65 n_25) 72 f_26) 66 n_27)) H := hP
            have hD : va_D A (prw y ad (sI (tI (sI (tI (sI (sI (sI (sI (sI σ 36 n_19) 37 n_20) 33 n_21) 34 n_22) 35 n_23) 71 f_24) 65 n_25) 72 f_26) 66 n_27)) := hD
            exact x_zretW (v := 0) (u := (n_19, n_20, n_21, n_22, n_23, f_24, n_25, f_26, n_27)) hx hb hr hQ rfl (by (try dsimp only); exact ⟨by omega, by omega, by omega, by omega, by omega, by omega, by first | decide | omega, by first | omega | exact fun h9 => absurd h9 (by decide)⟩) hP hD hK hS dX5_fact_128 hlocks
        · have kc_15 : r_14.toInt = (-1) := by have h9 := c_15; simp only [ge_iff_le, gt_iff_lt, x_lt, x_le, x_eq, ne_eq, Int32.not_lt, Int32.not_le] at h9; simp only [Int32.reduceToInt] at h9; omega
          refine lv_aload_n hx hb dX5_fact_110 rfl (lv_at hl 1 rfl) ?_
          refine lv_iconst (v := 1) hx hb dX5_fact_111 (by decide) ?_
          refine x_calliW (va_runV (As := [.int 1]) (rest := []) ⟨hx, hb, hml, hown, hts⟩ (z_refuse l D y H.size ad (sI (tI (sI (tI (sI (sI (sI (sI (sI σ 36 n_4) 37 n_5) 33 n_6) 34 n_7) 35 n_8) 71 f_9) 65 n_10) 72 f_11) 66 n_12) 1) (cwV 1 hts (goodIn_cons gCLt_4) rfl rfl rfl (by decide +kernel) ⟨by (try dsimp only); omega, by (try dsimp only); omega⟩) (x_preV (q := (RX5, TX5, 8)) hK hP hD (ci := 4) (q0 := 0) rfl prw_o0) rfl rfl hl.1 rfl (lv_room (Nat.le_of_ble_eq_true rfl)) dX5_fact_112 ⟨Nat.le_of_ble_eq_true rfl, Nat.le_of_ble_eq_true rfl⟩) hP hD hS hA (fun r_31 u H locs hw hP hD hS => ?_)
          obtain ⟨n_32, n_33⟩ := u
          try dsimp only at hw
          have hP : va_P D vwCl (prw y ad (sI (sI (sI (tI (sI (tI (sI (sI (sI (sI (sI σ 36 n_4) 37 n_5) 33 n_6) 34 n_7) 35 n_8) 71 f_9) 65 n_10) 72 f_11) 66 n_12) 36 n_32) 37 n_33)) H := hP
          have hD : va_D A (prw y ad (sI (sI (sI (tI (sI (tI (sI (sI (sI (sI (sI σ 36 n_4) 37 n_5) 33 n_6) 34 n_7) 35 n_8) 71 f_9) 65 n_10) 72 f_11) 66 n_12) 36 n_32) 37 n_33)) := hD
          replace hw : r_31.toInt = 0 := hw
          have hP : va_P D vwCl (prw y ad (sI (tI (sI (tI (sI (sI (sI (sI (sI σ 36 n_32) 37 n_33) 33 n_6) 34 n_7) 35 n_8) 71 f_9) 65 n_10) 72 f_11) 66 n_12)) H := hP
          have hD : va_D A (prw y ad (sI (tI (sI (tI (sI (sI (sI (sI (sI σ 36 n_32) 37 n_33) 33 n_6) 34 n_7) 35 n_8) 71 f_9) 65 n_10) 72 f_11) 66 n_12)) := hD
          exact x_zretW (v := r_31) (u := (n_32, n_33, n_6, n_7, n_8, f_9, n_10, f_11, n_12)) hx hb hr hQ (x_01 (by omega)) (by (try dsimp only); exact ⟨by omega, by omega, by omega, by omega, by omega, by omega, by first | decide | omega, by first | omega | exact fun h9 => absurd h9 (by decide)⟩) hP hD hK hS dX5_fact_115 hlocks
      · have kc_13 : r_3.toInt = 0 := by have h9 := c_13; simp only [ge_iff_le, gt_iff_lt, x_lt, x_le, x_eq, ne_eq, Int32.not_lt, Int32.not_le] at h9; simp only [Int32.reduceToInt] at h9; omega
        refine lv_iconst (v := 0) hx hb dX5_fact_98 (by decide) ?_
        exact x_zretW (v := 0) (u := (n_4, n_5, n_6, n_7, n_8, f_9, n_10, f_11, n_12)) hx hb hr hQ rfl (by (try dsimp only); exact ⟨by omega, by omega, by omega, by omega, by omega, by omega, by first | decide | omega, by first | omega | exact fun h9 => absurd h9 (by decide)⟩) hP hD hK hS dX5_fact_99 hlocks
    · have kc_2 : (σ.1 34).toInt = 272 := by have h9 := c_2; simp only [ge_iff_le, gt_iff_lt, x_lt, x_le, x_eq, ne_eq, Int32.not_lt, Int32.not_le] at h9; simp only [Int32.reduceToInt] at h9; omega
      refine lv_aload_n hx hb dX5_fact_50 rfl (lv_at hl 0 rfl) ?_
      refine lv_sipush (v := 272) hx hb dX5_fact_51 (by decide) ?_
      refine x_calliW (va_runV (As := [.int 272]) (rest := []) ⟨hx, hb, hml, hown, hts⟩ (z_openWith l D y H.size ad σ 272 (show 0 ≤ ((σ.1 45)).toInt from by first | omega | decide) (show ((σ.1 45)).toInt ≤ 700 from by first | omega | decide) (show 0 ≤ ((σ.1 35)).toInt from by first | omega | decide) (show ((σ.1 35)).toInt ≤ 8 from by first | omega | decide)) (cwV 1 hts (goodIn_cons gCLt_5) rfl rfl rfl (by decide +kernel) ⟨by (try dsimp only); omega, by (try dsimp only); omega⟩) (x_preV (q := (RX5, TX5, 8)) hK hP hD (ci := 4) (q0 := 0) rfl prw_o0) rfl rfl hl.1 rfl (lv_room (Nat.le_of_ble_eq_true rfl)) dX5_fact_54 ⟨Nat.le_of_ble_eq_true rfl, Nat.le_of_ble_eq_true rfl⟩) hP hD hS hA (fun r_34 u H locs hw hP hD hS => ?_)
      obtain ⟨n_35, n_36, n_37, n_38, n_39⟩ := u
      try dsimp only at hw
      have hP : va_P D vwCl (prw y ad (sI (sI (sI (sI (sI σ 33 n_35) 34 n_36) 35 n_37) 36 n_38) 37 n_39)) H := hP
      have hD : va_D A (prw y ad (sI (sI (sI (sI (sI σ 33 n_35) 34 n_36) 35 n_37) 36 n_38) 37 n_39)) := hD
      replace hw : (r_34.toInt = 1 ∧ n_37.toInt = ((σ.1 35)).toInt + 1 ∧ n_37.toInt ≤ 8) ∨ (r_34.toInt = 0 ∧ n_37 = (σ.1 35)) := hw
      rcases hw with ⟨hoa, hob, hoc⟩ | ⟨hoa, hob⟩
      · skip
        refine lv_if_eq (tgt := 67) hx hb dX5_fact_57 (by decide) (fun c_40 => ?_) (fun c_40 => ?_)
        · have kc_40 : r_34.toInt = 0 := by have h9 := c_40; simp only [ge_iff_le, gt_iff_lt, x_lt, x_le, x_eq, ne_eq, Int32.not_lt, Int32.not_le] at h9; simp only [Int32.reduceToInt] at h9; omega
          exfalso
          omega
        · have kc_40 : r_34.toInt ≠ 0 := by have h9 := c_40; simp only [ge_iff_le, gt_iff_lt, x_lt, x_le, x_eq, ne_eq, Int32.not_lt, Int32.not_le] at h9; simp only [Int32.reduceToInt] at h9; omega
          refine lv_aload_n hx hb dX5_fact_60 rfl (lv_at hl 0 rfl) ?_
          obtain ⟨e9, he9⟩ : ∃ e9, d = e9 + 1 := ⟨d - 1, by omega⟩
          refine x_calliW (va_runV (As := []) (rest := []) ⟨hx, hb, hml, hown, hts⟩ ((ihf e9 he9) l D y H.size ad (sI (sI (sI (sI (sI σ 33 n_35) 34 n_36) 35 n_37) 36 n_38) 37 n_39) (show 8 - (n_37).toInt ≤ (e9 : Int) from by first | omega | decide) (show 0 ≤ (n_37).toInt from by first | omega | decide) (show (n_37).toInt ≤ 8 from by first | omega | decide) (show 0 ≤ ((σ.1 45)).toInt from by first | omega | decide) (show ((σ.1 45)).toInt ≤ 700 from by first | omega | decide) (show 0 ≤ ((σ.1 66)).toInt from by first | omega | decide) (show ((σ.1 66)).toInt ≤ 700 from by first | omega | decide) (show 0 ≤ ((σ.1 65)).toInt from by first | omega | decide) (show ((σ.1 65)).toInt ≤ 350 from by first | omega | decide) (show 0 ≤ ((σ.1 68)).toInt from by first | omega | decide) (show ((σ.1 68)).toInt ≤ 24 from by first | omega | decide)) (cwV 0 hts (goodIn_cl hCLt (List.mem_of_getElem? (i := 7) rfl) (List.mem_of_getElem? (i := 8) rfl) (List.mem_of_getElem? (i := 9) rfl) (List.mem_of_getElem? (i := 3) rfl) (List.mem_of_getElem? (i := 10) rfl)) rfl rfl rfl (by decide +kernel) ⟨by (try dsimp only); omega, by (try dsimp only); omega⟩) (x_preV (q := (RX5, TX5, 8)) hK hP hD (ci := 4) (q0 := 0) rfl prw_o0) rfl rfl hl.1 rfl (lv_room (Nat.le_of_ble_eq_true rfl)) dX5_fact_61 ⟨Nat.le_of_ble_eq_true rfl, Nat.le_of_ble_eq_true rfl⟩) hP hD hS hA (fun r_41 u H locs hw hP hD hS => ?_)
          obtain ⟨n_42, n_43, n_44, n_45, n_46, f_47, n_48, f_49, n_50⟩ := u
          try dsimp only at hw
          have hP : va_P D vwCl (prw y ad (sI (tI (sI (tI (sI (sI (sI (sI (sI (sI (sI (sI (sI (sI σ 33 n_35) 34 n_36) 35 n_37) 36 n_38) 37 n_39) 36 n_42) 37 n_43) 33 n_44) 34 n_45) 35 n_46) 71 f_47) 65 n_48) 72 f_49) 66 n_50)) H := hP
          have hD : va_D A (prw y ad (sI (tI (sI (tI (sI (sI (sI (sI (sI (sI (sI (sI (sI (sI σ 33 n_35) 34 n_36) 35 n_37) 36 n_38) 37 n_39) 36 n_42) 37 n_43) 33 n_44) 34 n_45) 35 n_46) 71 f_47) 65 n_48) 72 f_49) 66 n_50)) := hD
          replace hw : 0 ≤ n_46.toInt ∧ n_46.toInt ≤ 8 ∧ 0 ≤ n_50.toInt ∧ n_50.toInt ≤ 700 ∧ 0 ≤ n_48.toInt ∧ n_48.toInt ≤ 350 ∧ (r_41.toInt = 0 ∨ r_41.toInt = 1) ∧ (r_41.toInt = 1 → n_46.toInt = (n_37).toInt) := hw
          obtain ⟨ho3, hp3, hq3, hr3, hs3, ht3, hu3, hv3⟩ := hw
          have hw := hu3
          refine lv_if_ne (tgt := 69) hx hb dX5_fact_64 (by decide) (fun c_51 => ?_) (fun c_51 => ?_)
          · have kc_51 : r_41.toInt ≠ 0 := by have h9 := c_51; simp only [ge_iff_le, gt_iff_lt, x_lt, x_le, x_eq, ne_eq, Int32.not_lt, Int32.not_le] at h9; simp only [Int32.reduceToInt] at h9; omega
            refine lv_aload_n hx hb dX5_fact_69 rfl (lv_at hl 0 rfl) ?_
            refine lv_dup hx hb dX5_fact_70 rfl ?_
            refine va_get (D := D) (ci := 4) (v := .int n_46) (C := RX5) (T := TX5) (N := 8) hx hb hts inX5 hown hK hP 0 prw_o0 rfl 4 (by decide) fl48 (fun _ h9 => h9) rfl dX5_fact_71 ?_
            refine lv_iconst (v := 1) hx hb dX5_fact_74 (by decide) ?_
            refine lv_isub hx hb dX5_fact_75 ?_
            refine lv_topi (fun i_52 ei_52 => ?_)
            have vi_52 : i_52.toInt = n_46.toInt - 1 := by have h9 := x_sub ei_52 (by omega) (by omega); omega
            refine va_put (D := D) (ci := 4) (v := .int i_52) (ty := .int) (C := RX5) (T := TX5) (N := 8) hx hb hts inX5 tyX5 tyX5_ok nmX5 hown hK hP hD hS 0 prw_o0 rfl 4 (by decide) fl48 (fun _ h9 => h9) rfl (by decide +kernel) rfl rfl (Nat.le_of_ble_eq_true rfl) dX5_fact_76 (fun H locs hP hD hS => ?_)
            have hP : va_P D vwCl (prw y ad (sI (sI (tI (sI (tI (sI (sI (sI (sI (sI (sI (sI (sI (sI (sI σ 33 n_35) 34 n_36) 35 n_37) 36 n_38) 37 n_39) 36 n_42) 37 n_43) 33 n_44) 34 n_45) 35 n_46) 71 f_47) 65 n_48) 72 f_49) 66 n_50) 35 i_52)) H := x_trP hP prw_p0_4
            have hD : va_D A (prw y ad (sI (sI (tI (sI (tI (sI (sI (sI (sI (sI (sI (sI (sI (sI (sI σ 33 n_35) 34 n_36) 35 n_37) 36 n_38) 37 n_39) 36 n_42) 37 n_43) 33 n_44) 34 n_45) 35 n_46) 71 f_47) 65 n_48) 72 f_49) 66 n_50) 35 i_52)) := x_trD hD prw_p0_4
            refine lv_aload_n hx hb dX5_fact_79 rfl (lv_at hl 0 rfl) ?_
            refine va_get (D := D) (ci := 4) (v := .ref (ad 60)) (C := RX5) (T := TX5) (N := 8) hx hb hts inX5 hown hK hP 0 prw_o0 rfl 1 (by decide) fl34 (fun _ h9 => h9) rfl dX5_fact_80 ?_
            refine lv_bipush (v := 16) hx hb dX5_fact_83 (by decide) ?_
            refine lv_iconst (v := 0) hx hb dX5_fact_85 (by decide) ?_
            have hPs : va_P D vwCl (pgw y ad (sI (sI (tI (sI (tI (sI (sI (sI (sI (sI (sI (sI (sI (sI (sI σ 33 n_35) 34 n_36) 35 n_37) 36 n_38) 37 n_39) 36 n_42) 37 n_43) 33 n_44) 34 n_45) 35 n_46) 71 f_47) 65 n_48) 72 f_49) 66 n_50) 35 i_52)) H := x_suP hP [2, 7, 8, 9, 10, 11, 12] rfl
            have hDs : va_D A (pgw y ad (sI (sI (tI (sI (tI (sI (sI (sI (sI (sI (sI (sI (sI (sI (sI σ 33 n_35) 34 n_36) 35 n_37) 36 n_38) 37 n_39) 36 n_42) 37 n_43) 33 n_44) 34 n_45) 35 n_46) 71 f_47) 65 n_48) 72 f_49) 66 n_50) 35 i_52)) := x_suD hD [2, 7, 8, 9, 10, 11, 12] rfl (by decide)
            refine x_callvS (b1 := fun (u : (Nat → Int32) × Int32) => (prw y ad (sI (tI (sI (sI (tI (sI (tI (sI (sI (sI (sI (sI (sI (sI (sI (sI (sI σ 33 n_35) 34 n_36) 35 n_37) 36 n_38) 37 n_39) 36 n_42) 37 n_43) 33 n_44) 34 n_45) 35 n_46) 71 f_47) 65 n_48) 72 f_49) 66 n_50) 35 i_52) 72 u.1) 66 u.2))) [2, 7, 8, 9, 10, 11, 12] (va_runV (As := [.int 16, .int 0]) (rest := []) ⟨hx, hb, hml, hown, hts⟩ (w_emit l D y H.size ad (sI (sI (tI (sI (tI (sI (sI (sI (sI (sI (sI (sI (sI (sI (sI σ 33 n_35) 34 n_36) 35 n_37) 36 n_38) 37 n_39) 36 n_42) 37 n_43) 33 n_44) 34 n_45) 35 n_46) 71 f_47) 65 n_48) 72 f_49) 66 n_50) 35 i_52) 16 0 (show 0 ≤ (n_50).toInt from by first | omega | decide) (show (n_50).toInt ≤ 700 from by first | omega | decide)) (cwV 2 hts (goodIn_cons gCLt_1) rfl rfl rfl (by decide +kernel) ⟨by (try dsimp only); omega, by (try dsimp only); omega⟩) (x_preV (q := (RX6, TX6, 13)) hK hPs hDs (ci := 5) (q0 := 0) rfl pgw_o0) rfl rfl hl.1 rfl (lv_room (Nat.le_of_ble_eq_true rfl)) dX5_fact_86 ⟨Nat.le_of_ble_eq_true rfl, Nat.le_of_ble_eq_true rfl⟩) hP hD hS hA rfl (fun _ => rfl) (fun _ => rfl) (fun _ => rfl) (fun u H locs hw hP hD hS => ?_)
            obtain ⟨f_53, n_54⟩ := u
            try dsimp only at hw
            have hP : va_P D vwCl (prw y ad (sI (tI (sI (sI (tI (sI (tI (sI (sI (sI (sI (sI (sI (sI (sI (sI (sI σ 33 n_35) 34 n_36) 35 n_37) 36 n_38) 37 n_39) 36 n_42) 37 n_43) 33 n_44) 34 n_45) 35 n_46) 71 f_47) 65 n_48) 72 f_49) 66 n_50) 35 i_52) 72 f_53) 66 n_54)) H := hP
            have hD : va_D A (prw y ad (sI (tI (sI (sI (tI (sI (tI (sI (sI (sI (sI (sI (sI (sI (sI (sI (sI σ 33 n_35) 34 n_36) 35 n_37) 36 n_38) 37 n_39) 36 n_42) 37 n_43) 33 n_44) 34 n_45) 35 n_46) 71 f_47) 65 n_48) 72 f_49) 66 n_50) 35 i_52) 72 f_53) 66 n_54)) := hD
            replace hw : 0 ≤ n_54.toInt ∧ n_54.toInt ≤ 700 := hw
            refine lv_iconst (v := 1) hx hb dX5_fact_89 (by decide) ?_
            have hP : va_P D vwCl (prw y ad (sI (tI (sI (tI (sI (sI (sI (sI (sI σ 36 n_42) 37 n_43) 33 n_44) 34 n_45) 35 i_52) 71 f_47) 65 n_48) 72 f_53) 66 n_54)) H := hP
            have hD : va_D A (prw y ad (sI (tI (sI (tI (sI (sI (sI (sI (sI σ 36 n_42) 37 n_43) 33 n_44) 34 n_45) 35 i_52) 71 f_47) 65 n_48) 72 f_53) 66 n_54)) := hD
            exact x_zretW (v := 1) (u := (n_42, n_43, n_44, n_45, i_52, f_47, n_48, f_53, n_54)) hx hb hr hQ rfl (by (try dsimp only); exact ⟨by omega, by omega, by omega, by omega, by omega, by omega, by first | decide | omega, by first | omega | exact fun h9 => absurd h9 (by decide)⟩) hP hD hK hS dX5_fact_90 hlocks
          · have kc_51 : r_41.toInt = 0 := by have h9 := c_51; simp only [ge_iff_le, gt_iff_lt, x_lt, x_le, x_eq, ne_eq, Int32.not_lt, Int32.not_le] at h9; simp only [Int32.reduceToInt] at h9; omega
            refine lv_iconst (v := 0) hx hb dX5_fact_67 (by decide) ?_
            have hP : va_P D vwCl (prw y ad (sI (tI (sI (tI (sI (sI (sI (sI (sI σ 36 n_42) 37 n_43) 33 n_44) 34 n_45) 35 n_46) 71 f_47) 65 n_48) 72 f_49) 66 n_50)) H := hP
            have hD : va_D A (prw y ad (sI (tI (sI (tI (sI (sI (sI (sI (sI σ 36 n_42) 37 n_43) 33 n_44) 34 n_45) 35 n_46) 71 f_47) 65 n_48) 72 f_49) 66 n_50)) := hD
            exact x_zretW (v := 0) (u := (n_42, n_43, n_44, n_45, n_46, f_47, n_48, f_49, n_50)) hx hb hr hQ rfl (by (try dsimp only); exact ⟨by omega, by omega, by omega, by omega, by omega, by omega, by first | decide | omega, by first | omega | exact fun h9 => absurd h9 (by decide)⟩) hP hD hK hS dX5_fact_68 hlocks
      · have hoc : n_37.toInt = (σ.1 35).toInt := by rw [hob]
        refine lv_if_eq (tgt := 67) hx hb dX5_fact_57 (by decide) (fun c_55 => ?_) (fun c_55 => ?_)
        · have kc_55 : r_34.toInt = 0 := by have h9 := c_55; simp only [ge_iff_le, gt_iff_lt, x_lt, x_le, x_eq, ne_eq, Int32.not_lt, Int32.not_le] at h9; simp only [Int32.reduceToInt] at h9; omega
          refine lv_iconst (v := 0) hx hb dX5_fact_67 (by decide) ?_
          have hP : va_P D vwCl (prw y ad (sI (tI (sI (tI (sI (sI (sI (sI (sI σ 36 n_38) 37 n_39) 33 n_35) 34 n_36) 35 n_37) 71 (σ.2.2.1 71)) 65 (σ.1 65)) 72 (σ.2.2.1 72)) 66 (σ.1 66))) H := hP
          have hD : va_D A (prw y ad (sI (tI (sI (tI (sI (sI (sI (sI (sI σ 36 n_38) 37 n_39) 33 n_35) 34 n_36) 35 n_37) 71 (σ.2.2.1 71)) 65 (σ.1 65)) 72 (σ.2.2.1 72)) 66 (σ.1 66))) := hD
          exact x_zretW (v := 0) (u := (n_38, n_39, n_35, n_36, n_37, (σ.2.2.1 71), (σ.1 65), (σ.2.2.1 72), (σ.1 66))) hx hb hr hQ rfl (by (try dsimp only); exact ⟨by omega, by omega, by omega, by omega, by omega, by omega, by first | decide | omega, by first | omega | exact fun h9 => absurd h9 (by decide)⟩) hP hD hK hS dX5_fact_68 hlocks
        · have kc_55 : r_34.toInt ≠ 0 := by have h9 := c_55; simp only [ge_iff_le, gt_iff_lt, x_lt, x_le, x_eq, ne_eq, Int32.not_lt, Int32.not_le] at h9; simp only [Int32.reduceToInt] at h9; omega
          exfalso
          omega
  · have kc_1 : (σ.1 34).toInt = 91 := by have h9 := c_1; simp only [ge_iff_le, gt_iff_lt, x_lt, x_le, x_eq, ne_eq, Int32.not_lt, Int32.not_le] at h9; simp only [Int32.reduceToInt] at h9; omega
    refine lv_aload_n hx hb dX5_fact_9 rfl (lv_at hl 0 rfl) ?_
    refine lv_bipush (v := 91) hx hb dX5_fact_10 (by decide) ?_
    refine x_calliW (va_runV (As := [.int 91]) (rest := []) ⟨hx, hb, hml, hown, hts⟩ (z_openWith l D y H.size ad σ 91 (show 0 ≤ ((σ.1 45)).toInt from by first | omega | decide) (show ((σ.1 45)).toInt ≤ 700 from by first | omega | decide) (show 0 ≤ ((σ.1 35)).toInt from by first | omega | decide) (show ((σ.1 35)).toInt ≤ 8 from by first | omega | decide)) (cwV 1 hts (goodIn_cons gCLt_5) rfl rfl rfl (by decide +kernel) ⟨by (try dsimp only); omega, by (try dsimp only); omega⟩) (x_preV (q := (RX5, TX5, 8)) hK hP hD (ci := 4) (q0 := 0) rfl prw_o0) rfl rfl hl.1 rfl (lv_room (Nat.le_of_ble_eq_true rfl)) dX5_fact_12 ⟨Nat.le_of_ble_eq_true rfl, Nat.le_of_ble_eq_true rfl⟩) hP hD hS hA (fun r_56 u H locs hw hP hD hS => ?_)
    obtain ⟨n_57, n_58, n_59, n_60, n_61⟩ := u
    try dsimp only at hw
    have hP : va_P D vwCl (prw y ad (sI (sI (sI (sI (sI σ 33 n_57) 34 n_58) 35 n_59) 36 n_60) 37 n_61)) H := hP
    have hD : va_D A (prw y ad (sI (sI (sI (sI (sI σ 33 n_57) 34 n_58) 35 n_59) 36 n_60) 37 n_61)) := hD
    replace hw : (r_56.toInt = 1 ∧ n_59.toInt = ((σ.1 35)).toInt + 1 ∧ n_59.toInt ≤ 8) ∨ (r_56.toInt = 0 ∧ n_59 = (σ.1 35)) := hw
    rcases hw with ⟨hoa, hob, hoc⟩ | ⟨hoa, hob⟩
    · skip
      refine lv_if_eq (tgt := 38) hx hb dX5_fact_15 (by decide) (fun c_62 => ?_) (fun c_62 => ?_)
      · have kc_62 : r_56.toInt = 0 := by have h9 := c_62; simp only [ge_iff_le, gt_iff_lt, x_lt, x_le, x_eq, ne_eq, Int32.not_lt, Int32.not_le] at h9; simp only [Int32.reduceToInt] at h9; omega
        exfalso
        omega
      · have kc_62 : r_56.toInt ≠ 0 := by have h9 := c_62; simp only [ge_iff_le, gt_iff_lt, x_lt, x_le, x_eq, ne_eq, Int32.not_lt, Int32.not_le] at h9; simp only [Int32.reduceToInt] at h9; omega
        refine lv_aload_n hx hb dX5_fact_18 rfl (lv_at hl 0 rfl) ?_
        obtain ⟨e9, he9⟩ : ∃ e9, d = e9 + 1 := ⟨d - 1, by omega⟩
        refine x_calliW (va_runV (As := []) (rest := []) ⟨hx, hb, hml, hown, hts⟩ ((iht e9 he9) l D y H.size ad (sI (sI (sI (sI (sI σ 33 n_57) 34 n_58) 35 n_59) 36 n_60) 37 n_61) (show 8 - (n_59).toInt ≤ (e9 : Int) from by first | omega | decide) (show 0 ≤ (n_59).toInt from by first | omega | decide) (show (n_59).toInt ≤ 8 from by first | omega | decide) (show 0 ≤ ((σ.1 45)).toInt from by first | omega | decide) (show ((σ.1 45)).toInt ≤ 700 from by first | omega | decide) (show 0 ≤ ((σ.1 66)).toInt from by first | omega | decide) (show ((σ.1 66)).toInt ≤ 700 from by first | omega | decide) (show 0 ≤ ((σ.1 65)).toInt from by first | omega | decide) (show ((σ.1 65)).toInt ≤ 350 from by first | omega | decide) (show 0 ≤ ((σ.1 68)).toInt from by first | omega | decide) (show ((σ.1 68)).toInt ≤ 24 from by first | omega | decide)) (cwV 0 hts (goodIn_cl hCLt (List.mem_of_getElem? (i := 11) rfl) (List.mem_of_getElem? (i := 12) rfl) (List.mem_of_getElem? (i := 13) rfl) (List.mem_of_getElem? (i := 3) rfl) (List.mem_of_getElem? (i := 14) rfl)) rfl rfl rfl (by decide +kernel) ⟨by (try dsimp only); omega, by (try dsimp only); omega⟩) (x_preV (q := (RX5, TX5, 8)) hK hP hD (ci := 4) (q0 := 0) rfl prw_o0) rfl rfl hl.1 rfl (lv_room (Nat.le_of_ble_eq_true rfl)) dX5_fact_19 ⟨Nat.le_of_ble_eq_true rfl, Nat.le_of_ble_eq_true rfl⟩) hP hD hS hA (fun r_63 u H locs hw hP hD hS => ?_)
        obtain ⟨n_64, n_65, n_66, n_67, n_68, f_69, n_70, f_71, n_72⟩ := u
        try dsimp only at hw
        have hP : va_P D vwCl (prw y ad (sI (tI (sI (tI (sI (sI (sI (sI (sI (sI (sI (sI (sI (sI σ 33 n_57) 34 n_58) 35 n_59) 36 n_60) 37 n_61) 36 n_64) 37 n_65) 33 n_66) 34 n_67) 35 n_68) 71 f_69) 65 n_70) 72 f_71) 66 n_72)) H := hP
        have hD : va_D A (prw y ad (sI (tI (sI (tI (sI (sI (sI (sI (sI (sI (sI (sI (sI (sI σ 33 n_57) 34 n_58) 35 n_59) 36 n_60) 37 n_61) 36 n_64) 37 n_65) 33 n_66) 34 n_67) 35 n_68) 71 f_69) 65 n_70) 72 f_71) 66 n_72)) := hD
        replace hw : 0 ≤ n_68.toInt ∧ n_68.toInt ≤ 8 ∧ 0 ≤ n_72.toInt ∧ n_72.toInt ≤ 700 ∧ 0 ≤ n_70.toInt ∧ n_70.toInt ≤ 350 ∧ (r_63.toInt = 0 ∨ r_63.toInt = 1) ∧ (r_63.toInt = 1 → n_68.toInt = (n_59).toInt) := hw
        obtain ⟨ho4, hp4, hq4, hr4, hs4, ht4, hu4, hv4⟩ := hw
        have hw := hu4
        refine lv_if_eq (tgt := 38) hx hb dX5_fact_22 (by decide) (fun c_73 => ?_) (fun c_73 => ?_)
        · have kc_73 : r_63.toInt = 0 := by have h9 := c_73; simp only [ge_iff_le, gt_iff_lt, x_lt, x_le, x_eq, ne_eq, Int32.not_lt, Int32.not_le] at h9; simp only [Int32.reduceToInt] at h9; omega
          refine lv_iconst (v := 0) hx hb dX5_fact_38 (by decide) ?_
          have hP : va_P D vwCl (prw y ad (sI (tI (sI (tI (sI (sI (sI (sI (sI σ 36 n_64) 37 n_65) 33 n_66) 34 n_67) 35 n_68) 71 f_69) 65 n_70) 72 f_71) 66 n_72)) H := hP
          have hD : va_D A (prw y ad (sI (tI (sI (tI (sI (sI (sI (sI (sI σ 36 n_64) 37 n_65) 33 n_66) 34 n_67) 35 n_68) 71 f_69) 65 n_70) 72 f_71) 66 n_72)) := hD
          exact x_zretW (v := 0) (u := (n_64, n_65, n_66, n_67, n_68, f_69, n_70, f_71, n_72)) hx hb hr hQ rfl (by (try dsimp only); exact ⟨by omega, by omega, by omega, by omega, by omega, by omega, by first | decide | omega, by first | omega | exact fun h9 => absurd h9 (by decide)⟩) hP hD hK hS dX5_fact_39 hlocks
        · have kc_73 : r_63.toInt ≠ 0 := by have h9 := c_73; simp only [ge_iff_le, gt_iff_lt, x_lt, x_le, x_eq, ne_eq, Int32.not_lt, Int32.not_le] at h9; simp only [Int32.reduceToInt] at h9; omega
          refine lv_aload_n hx hb dX5_fact_25 rfl (lv_at hl 0 rfl) ?_
          refine lv_bipush (v := 93) hx hb dX5_fact_26 (by decide) ?_
          refine x_calliW (va_runV (As := [.int 93]) (rest := []) ⟨hx, hb, hml, hown, hts⟩ (z_closeWith l D y H.size ad (sI (tI (sI (tI (sI (sI (sI (sI (sI (sI (sI (sI (sI (sI σ 33 n_57) 34 n_58) 35 n_59) 36 n_60) 37 n_61) 36 n_64) 37 n_65) 33 n_66) 34 n_67) 35 n_68) 71 f_69) 65 n_70) 72 f_71) 66 n_72) 93 (show 0 ≤ ((σ.1 45)).toInt from by first | omega | decide) (show ((σ.1 45)).toInt ≤ 700 from by first | omega | decide) (show 1 ≤ (n_68).toInt from by first | omega | decide) (show (n_68).toInt ≤ 8 from by first | omega | decide)) (cwV 1 hts (goodIn_cons gCLt_6) rfl rfl rfl (by decide +kernel) ⟨by (try dsimp only); omega, by (try dsimp only); omega⟩) (x_preV (q := (RX5, TX5, 8)) hK hP hD (ci := 4) (q0 := 0) rfl prw_o0) rfl rfl hl.1 rfl (lv_room (Nat.le_of_ble_eq_true rfl)) dX5_fact_28 ⟨Nat.le_of_ble_eq_true rfl, Nat.le_of_ble_eq_true rfl⟩) hP hD hS hA (fun r_74 u H locs hw hP hD hS => ?_)
          obtain ⟨n_75, n_76, n_77, n_78, n_79⟩ := u
          try dsimp only at hw
          have hP : va_P D vwCl (prw y ad (sI (sI (sI (sI (sI (sI (tI (sI (tI (sI (sI (sI (sI (sI (sI (sI (sI (sI (sI σ 33 n_57) 34 n_58) 35 n_59) 36 n_60) 37 n_61) 36 n_64) 37 n_65) 33 n_66) 34 n_67) 35 n_68) 71 f_69) 65 n_70) 72 f_71) 66 n_72) 33 n_75) 34 n_76) 35 n_77) 36 n_78) 37 n_79)) H := hP
          have hD : va_D A (prw y ad (sI (sI (sI (sI (sI (sI (tI (sI (tI (sI (sI (sI (sI (sI (sI (sI (sI (sI (sI σ 33 n_57) 34 n_58) 35 n_59) 36 n_60) 37 n_61) 36 n_64) 37 n_65) 33 n_66) 34 n_67) 35 n_68) 71 f_69) 65 n_70) 72 f_71) 66 n_72) 33 n_75) 34 n_76) 35 n_77) 36 n_78) 37 n_79)) := hD
          replace hw : (r_74.toInt = 1 ∧ n_77.toInt = (n_68).toInt - 1) ∨ (r_74.toInt = 0 ∧ n_77 = n_68) := hw
          rcases hw with ⟨hca, hcb⟩ | ⟨hca, hcb⟩
          · skip
            refine lv_if_eq (tgt := 38) hx hb dX5_fact_31 (by decide) (fun c_80 => ?_) (fun c_80 => ?_)
            · have kc_80 : r_74.toInt = 0 := by have h9 := c_80; simp only [ge_iff_le, gt_iff_lt, x_lt, x_le, x_eq, ne_eq, Int32.not_lt, Int32.not_le] at h9; simp only [Int32.reduceToInt] at h9; omega
              exfalso
              omega
            · have kc_80 : r_74.toInt ≠ 0 := by have h9 := c_80; simp only [ge_iff_le, gt_iff_lt, x_lt, x_le, x_eq, ne_eq, Int32.not_lt, Int32.not_le] at h9; simp only [Int32.reduceToInt] at h9; omega
              refine lv_iconst (v := 1) hx hb dX5_fact_34 (by decide) ?_
              refine lv_goto (tgt := 39) hx hb dX5_fact_35 (by decide) ?_
              have hP : va_P D vwCl (prw y ad (sI (tI (sI (tI (sI (sI (sI (sI (sI σ 36 n_78) 37 n_79) 33 n_75) 34 n_76) 35 n_77) 71 f_69) 65 n_70) 72 f_71) 66 n_72)) H := hP
              have hD : va_D A (prw y ad (sI (tI (sI (tI (sI (sI (sI (sI (sI σ 36 n_78) 37 n_79) 33 n_75) 34 n_76) 35 n_77) 71 f_69) 65 n_70) 72 f_71) 66 n_72)) := hD
              exact x_zretW (v := 1) (u := (n_78, n_79, n_75, n_76, n_77, f_69, n_70, f_71, n_72)) hx hb hr hQ rfl (by (try dsimp only); exact ⟨by omega, by omega, by omega, by omega, by omega, by omega, by first | decide | omega, by first | omega | exact fun h9 => absurd h9 (by decide)⟩) hP hD hK hS dX5_fact_39 hlocks
          · have hcc : n_77.toInt = n_68.toInt := by rw [hcb]
            refine lv_if_eq (tgt := 38) hx hb dX5_fact_31 (by decide) (fun c_81 => ?_) (fun c_81 => ?_)
            · have kc_81 : r_74.toInt = 0 := by have h9 := c_81; simp only [ge_iff_le, gt_iff_lt, x_lt, x_le, x_eq, ne_eq, Int32.not_lt, Int32.not_le] at h9; simp only [Int32.reduceToInt] at h9; omega
              refine lv_iconst (v := 0) hx hb dX5_fact_38 (by decide) ?_
              have hP : va_P D vwCl (prw y ad (sI (tI (sI (tI (sI (sI (sI (sI (sI σ 36 n_78) 37 n_79) 33 n_75) 34 n_76) 35 n_77) 71 f_69) 65 n_70) 72 f_71) 66 n_72)) H := hP
              have hD : va_D A (prw y ad (sI (tI (sI (tI (sI (sI (sI (sI (sI σ 36 n_78) 37 n_79) 33 n_75) 34 n_76) 35 n_77) 71 f_69) 65 n_70) 72 f_71) 66 n_72)) := hD
              exact x_zretW (v := 0) (u := (n_78, n_79, n_75, n_76, n_77, f_69, n_70, f_71, n_72)) hx hb hr hQ rfl (by (try dsimp only); exact ⟨by omega, by omega, by omega, by omega, by omega, by omega, by first | decide | omega, by first | omega | exact fun h9 => absurd h9 (by decide)⟩) hP hD hK hS dX5_fact_39 hlocks
            · have kc_81 : r_74.toInt ≠ 0 := by have h9 := c_81; simp only [ge_iff_le, gt_iff_lt, x_lt, x_le, x_eq, ne_eq, Int32.not_lt, Int32.not_le] at h9; simp only [Int32.reduceToInt] at h9; omega
              exfalso
              omega
    · have hoc : n_59.toInt = (σ.1 35).toInt := by rw [hob]
      refine lv_if_eq (tgt := 38) hx hb dX5_fact_15 (by decide) (fun c_82 => ?_) (fun c_82 => ?_)
      · have kc_82 : r_56.toInt = 0 := by have h9 := c_82; simp only [ge_iff_le, gt_iff_lt, x_lt, x_le, x_eq, ne_eq, Int32.not_lt, Int32.not_le] at h9; simp only [Int32.reduceToInt] at h9; omega
        refine lv_iconst (v := 0) hx hb dX5_fact_38 (by decide) ?_
        have hP : va_P D vwCl (prw y ad (sI (tI (sI (tI (sI (sI (sI (sI (sI σ 36 n_60) 37 n_61) 33 n_57) 34 n_58) 35 n_59) 71 (σ.2.2.1 71)) 65 (σ.1 65)) 72 (σ.2.2.1 72)) 66 (σ.1 66))) H := hP
        have hD : va_D A (prw y ad (sI (tI (sI (tI (sI (sI (sI (sI (sI σ 36 n_60) 37 n_61) 33 n_57) 34 n_58) 35 n_59) 71 (σ.2.2.1 71)) 65 (σ.1 65)) 72 (σ.2.2.1 72)) 66 (σ.1 66))) := hD
        exact x_zretW (v := 0) (u := (n_60, n_61, n_57, n_58, n_59, (σ.2.2.1 71), (σ.1 65), (σ.2.2.1 72), (σ.1 66))) hx hb hr hQ rfl (by (try dsimp only); exact ⟨by omega, by omega, by omega, by omega, by omega, by omega, by first | decide | omega, by first | omega | exact fun h9 => absurd h9 (by decide)⟩) hP hD hK hS dX5_fact_39 hlocks
      · have kc_82 : r_56.toInt ≠ 0 := by have h9 := c_82; simp only [ge_iff_le, gt_iff_lt, x_lt, x_le, x_eq, ne_eq, Int32.not_lt, Int32.not_le] at h9; simp only [Int32.reduceToInt] at h9; omega
        exfalso
        omega

set_option maxHeartbeats 4000000 in
set_option maxRecDepth 100000 in
theorem z_bothR (l : Launch) (D : va_G) (y : Nat → ClassId) (sz : Nat) (ad : Nat → Nat) (σ : OS) (d : Nat) (iht : ∀ e : Nat, d = e + 1 → C_test e) (ihf : ∀ e : Nat, d = e + 1 → C_fact e) (hdp : 8 - (σ.1 35).toInt ≤ (d : Int)) (hopen0 : 0 ≤ (σ.1 35).toInt) (hopen1 : (σ.1 35).toInt ≤ 8) (htcount0 : 0 ≤ (σ.1 45).toInt) (htcount1 : (σ.1 45).toInt ≤ 700) (hlength0 : 0 ≤ (σ.1 66).toInt) (hlength1 : (σ.1 66).toInt ≤ 700) (hnumbers0 : 0 ≤ (σ.1 65).toInt) (hnumbers1 : (σ.1 65).toInt ≤ 350) (hnames0 : 0 ≤ (σ.1 68).toInt) (hnames1 : (σ.1 68).toInt ≤ 24) : Met l yX5_both v_z_bothR ({ frames := 3 * d + 69, cells := 0, slots := 0, locals := 90 * d + 1970 } : Room) (va_Pc [.ref (ad 30)] (xPre D (xT y) (prw y ad σ) sz)) (va_Qi (fun (r : Int32) (u : Int32 × Int32 × Int32 × Int32 × Int32 × (Nat → Int32) × Int32 × (Nat → Int32) × Int32) => 0 ≤ u.2.2.2.2.1.toInt ∧ u.2.2.2.2.1.toInt ≤ 8 ∧ 0 ≤ u.2.2.2.2.2.2.2.2.toInt ∧ u.2.2.2.2.2.2.2.2.toInt ≤ 700 ∧ 0 ≤ u.2.2.2.2.2.2.1.toInt ∧ u.2.2.2.2.2.2.1.toInt ≤ 350 ∧ (r.toInt = 0 ∨ r.toInt = 1) ∧ (r.toInt = 1 → u.2.2.2.2.1.toInt = (σ.1 35).toInt)) (fun (u : Int32 × Int32 × Int32 × Int32 × Int32 × (Nat → Int32) × Int32 × (Nat → Int32) × Int32) => xB D (xT y) (va_A (prw y ad σ) sz) (prw y ad (sI (tI (sI (tI (sI (sI (sI (sI (sI σ 36 u.1) 37 u.2.1) 33 u.2.2.1) 34 u.2.2.2.1) 35 u.2.2.2.2.1) 71 u.2.2.2.2.2.1) 65 u.2.2.2.2.2.2.1) 72 u.2.2.2.2.2.2.2.1) 66 u.2.2.2.2.2.2.2.2))) (va_A (prw y ad σ) sz)) 0 0 (va_A (prw y ad σ) sz) := by
  refine x_meti (cc := cX5_both) (maxL := 2) (by decide) rfl (Nat.le_of_ble_eq_true rfl) ?_
  intro p e s m below meth c A H locs Q hx hb hml hown hts hr hlocks hmn hA hP hK hD hS ls hl hQ
  have hl : lv_has ls 2 [(0, .ref (ad 30))] := hl
  have kk_0 : (0 : Int32).toInt = 0 := rfl
  have kk_700 : (700 : Int32).toInt = 700 := rfl
  have kk_1 : (1 : Int32).toInt = 1 := rfl
  have fl45 := hts (.fieldLink RX5 45 "SlopeRunner$Parser" "kind" "I") (List.mem_of_getElem? (i := 6) rfl)
  have inX5 : ∀ w ∈ wsX50, w ∈ v_z_bothR := (fun w h => List.mem_cons_of_mem _ (List.mem_append_right _ (List.mem_append_right _ (List.mem_append_right _ (List.mem_append_right _ (List.mem_append_right _ (List.mem_append_right _ (List.mem_append_right _ (List.mem_append_right _ h)))))))))
  have kk_270 : (270 : Int32).toInt = 270 := rfl
  have fl34 := hts (.fieldLink RX5 34 "SlopeRunner$Parser" "into" "LSlopeRunner$Program;") (List.mem_of_getElem? (i := 7) rfl)
  have kk_17 : (17 : Int32).toInt = 17 := rfl
  refine lv_aload_n hx hb dX5_both_0 rfl (lv_at hl 0 rfl) ?_
  refine x_calliW (va_runV (As := []) (rest := []) ⟨hx, hb, hml, hown, hts⟩ (z_factR l D y H.size ad σ d iht ihf (show 8 - ((σ.1 35)).toInt ≤ (d : Int) from by first | omega | decide) (show 0 ≤ ((σ.1 35)).toInt from by first | omega | decide) (show ((σ.1 35)).toInt ≤ 8 from by first | omega | decide) (show 0 ≤ ((σ.1 45)).toInt from by first | omega | decide) (show ((σ.1 45)).toInt ≤ 700 from by first | omega | decide) (show 0 ≤ ((σ.1 66)).toInt from by first | omega | decide) (show ((σ.1 66)).toInt ≤ 700 from by first | omega | decide) (show 0 ≤ ((σ.1 65)).toInt from by first | omega | decide) (show ((σ.1 65)).toInt ≤ 350 from by first | omega | decide) (show 0 ≤ ((σ.1 68)).toInt from by first | omega | decide) (show ((σ.1 68)).toInt ≤ 24 from by first | omega | decide)) (cwV 0 hts (goodIn_cl hCLt (List.mem_of_getElem? (i := 7) rfl) (List.mem_of_getElem? (i := 8) rfl) (List.mem_of_getElem? (i := 9) rfl) (List.mem_of_getElem? (i := 3) rfl) (List.mem_of_getElem? (i := 10) rfl)) rfl rfl rfl (by decide +kernel) ⟨by (try dsimp only); omega, by (try dsimp only); omega⟩) (x_preV (q := (RX5, TX5, 8)) hK hP hD (ci := 4) (q0 := 0) rfl prw_o0) rfl rfl hl.1 rfl (lv_room (Nat.le_of_ble_eq_true rfl)) dX5_both_1 ⟨Nat.le_of_ble_eq_true rfl, Nat.le_of_ble_eq_true rfl⟩) hP hD hS hA (fun r_1 u H locs hw hP hD hS => ?_)
  obtain ⟨n_2, n_3, n_4, n_5, n_6, f_7, n_8, f_9, n_10⟩ := u
  try dsimp only at hw
  have hP : va_P D vwCl (prw y ad (sI (tI (sI (tI (sI (sI (sI (sI (sI σ 36 n_2) 37 n_3) 33 n_4) 34 n_5) 35 n_6) 71 f_7) 65 n_8) 72 f_9) 66 n_10)) H := hP
  have hD : va_D A (prw y ad (sI (tI (sI (tI (sI (sI (sI (sI (sI σ 36 n_2) 37 n_3) 33 n_4) 34 n_5) 35 n_6) 71 f_7) 65 n_8) 72 f_9) 66 n_10)) := hD
  replace hw : 0 ≤ n_6.toInt ∧ n_6.toInt ≤ 8 ∧ 0 ≤ n_10.toInt ∧ n_10.toInt ≤ 700 ∧ 0 ≤ n_8.toInt ∧ n_8.toInt ≤ 350 ∧ (r_1.toInt = 0 ∨ r_1.toInt = 1) ∧ (r_1.toInt = 1 → n_6.toInt = ((σ.1 35)).toInt) := hw
  obtain ⟨ho1, hp1, hq1, hr1, hs1, ht1, hu1, hv1⟩ := hw
  have hw := hu1
  refine lv_if_ne (tgt := 9) hx hb dX5_both_4 (by decide) (fun c_11 => ?_) (fun c_11 => ?_)
  · have kc_11 : r_1.toInt ≠ 0 := by have h9 := c_11; simp only [ge_iff_le, gt_iff_lt, x_lt, x_le, x_eq, ne_eq, Int32.not_lt, Int32.not_le] at h9; simp only [Int32.reduceToInt] at h9; omega
    refine lv_iconst (v := 0) hx hb dX5_both_9 (by decide) ?_
    refine lv_istore_n (lv' := [(1, .int 0), (0, .ref (ad 30))]) hx hb dX5_both_10 rfl hl (by decide) rfl (fun ls hl => ?_)
    have l00 : (0 : Int32).toInt = 0 := rfl
    have loop : ∀ (fu : Nat) (i : Int32) (v_kindOfFault : Int32) (v_bytesIntoToken : Int32) (v_at : Int32) (v_kind : Int32) (v_open : Int32) (v_number : Nat → Int32) (v_numbers : Int32) (v_code : Nat → Int32) (v_length : Int32) (H : Heap) (locs : List Loc) (ls : Array Slot), (0 ≤ i.toInt) → (i.toInt ≤ 700) → (v_open.toInt = (σ.1 35).toInt) → (0 ≤ v_length.toInt) → (v_length.toInt ≤ 700) → (0 ≤ v_numbers.toInt) → (v_numbers.toInt ≤ 350) → (700 - i.toInt < (fu : Int)) → va_P D vwCl (prw y ad (sI (tI (sI (tI (sI (sI (sI (sI (sI σ 36 v_kindOfFault) 37 v_bytesIntoToken) 33 v_at) 34 v_kind) 35 v_open) 71 v_number) 65 v_numbers) 72 v_code) 66 v_length)) H → va_D A (prw y ad (sI (tI (sI (tI (sI (sI (sI (sI (sI σ 36 v_kindOfFault) 37 v_bytesIntoToken) 33 v_at) 34 v_kind) 35 v_open) 71 v_number) 65 v_numbers) 72 v_code) 66 v_length)) → va_S A s.heap H locs → lv_has ls 2 [(1, .int i), (0, .ref (ad 30))] → W p l e ({ frames := 3 * d + 69, cells := 0, slots := 0, locals := 90 * d + 1970 } : Room) s m ([.ref (ad 30)] : List Value).toArray below meth c H locs 0 0 Q (F0 m 11 ls []) := by
      intro fu
      induction fu with
      | zero =>
        intro i v_kindOfFault v_bytesIntoToken v_at v_kind v_open v_number v_numbers v_code v_length H locs ls hi0 hi1 hop hvlength0 hvlength1 hvnumbers0 hvnumbers1 hm
        exact absurd hm (by omega)
      | succ fu ih_loop =>
        intro i v_kindOfFault v_bytesIntoToken v_at v_kind v_open v_number v_numbers v_code v_length H locs ls hi0 hi1 hop hvlength0 hvlength1 hvnumbers0 hvnumbers1 hm hP hD hS hl
        refine lv_iload_n hx hb dX5_both_11 rfl (lv_at hl 0 rfl) ?_
        refine lv_sipush (v := 700) hx hb dX5_both_12 (by decide) ?_
        refine lv_icmp_ge (tgt := 57) hx hb dX5_both_15 (by decide) (fun c_12 => ?_) (fun c_12 => ?_)
        · have kc_12 : i.toInt ≥ 700 := by have h9 := c_12; simp only [ge_iff_le, gt_iff_lt, x_lt, x_le, x_eq, ne_eq, Int32.not_lt, Int32.not_le] at h9; simp only [Int32.reduceToInt] at h9; omega
          refine lv_iconst (v := 1) hx hb dX5_both_57 (by decide) ?_
          exact x_zretW (v := 1) (u := (v_kindOfFault, v_bytesIntoToken, v_at, v_kind, v_open, v_number, v_numbers, v_code, v_length)) hx hb hr hQ rfl (by (try dsimp only); exact ⟨by omega, by omega, by omega, by omega, by omega, by omega, by first | decide | omega, by first | omega | exact fun h9 => absurd h9 (by decide)⟩) hP hD hK hS dX5_both_58 hlocks
        · have kc_12 : i.toInt < 700 := by have h9 := c_12; simp only [ge_iff_le, gt_iff_lt, x_lt, x_le, x_eq, ne_eq, Int32.not_lt, Int32.not_le] at h9; simp only [Int32.reduceToInt] at h9; omega
          refine lv_aload_n hx hb dX5_both_18 rfl (lv_at hl 1 rfl) ?_
          refine va_get (D := D) (ci := 4) (v := .int v_kind) (C := RX5) (T := TX5) (N := 8) hx hb hts inX5 hown hK hP 0 prw_o0 rfl 3 (by decide) fl45 (fun _ h9 => h9) rfl dX5_both_19 ?_
          refine lv_sipush (v := 270) hx hb dX5_both_22 (by decide) ?_
          refine lv_icmp_ne (tgt := 57) hx hb dX5_both_25 (by decide) (fun c_13 => ?_) (fun c_13 => ?_)
          · have kc_13 : v_kind.toInt ≠ 270 := by have h9 := c_13; simp only [ge_iff_le, gt_iff_lt, x_lt, x_le, x_eq, ne_eq, Int32.not_lt, Int32.not_le] at h9; simp only [Int32.reduceToInt] at h9; omega
            refine lv_iconst (v := 1) hx hb dX5_both_57 (by decide) ?_
            exact x_zretW (v := 1) (u := (v_kindOfFault, v_bytesIntoToken, v_at, v_kind, v_open, v_number, v_numbers, v_code, v_length)) hx hb hr hQ rfl (by (try dsimp only); exact ⟨by omega, by omega, by omega, by omega, by omega, by omega, by first | decide | omega, by first | omega | exact fun h9 => absurd h9 (by decide)⟩) hP hD hK hS dX5_both_58 hlocks
          · have kc_13 : v_kind.toInt = 270 := by have h9 := c_13; simp only [ge_iff_le, gt_iff_lt, x_lt, x_le, x_eq, ne_eq, Int32.not_lt, Int32.not_le] at h9; simp only [Int32.reduceToInt] at h9; omega
            refine lv_aload_n hx hb dX5_both_28 rfl (lv_at hl 1 rfl) ?_
            refine x_callvW (va_runV (As := []) (rest := []) ⟨hx, hb, hml, hown, hts⟩ (z_pass l D y H.size ad (sI (tI (sI (tI (sI (sI (sI (sI (sI σ 36 v_kindOfFault) 37 v_bytesIntoToken) 33 v_at) 34 v_kind) 35 v_open) 71 v_number) 65 v_numbers) 72 v_code) 66 v_length) (show 0 ≤ ((σ.1 45)).toInt from by first | omega | decide) (show ((σ.1 45)).toInt ≤ 700 from by first | omega | decide)) (cwV 0 hts (goodIn_cons gCLt_0) rfl rfl rfl (by decide +kernel) ⟨by (try dsimp only); omega, by (try dsimp only); omega⟩) (x_preV (q := (RX5, TX5, 8)) hK hP hD (ci := 4) (q0 := 0) rfl prw_o0) rfl rfl hl.1 rfl (lv_room (Nat.le_of_ble_eq_true rfl)) dX5_both_29 ⟨Nat.le_of_ble_eq_true rfl, Nat.le_of_ble_eq_true rfl⟩) hP hD hS hA (fun u H locs hw hP hD hS => ?_)
            obtain ⟨n_14, n_15⟩ := u
            try dsimp only at hw
            have hP : va_P D vwCl (prw y ad (sI (sI (sI (tI (sI (tI (sI (sI (sI (sI (sI σ 36 v_kindOfFault) 37 v_bytesIntoToken) 33 v_at) 34 v_kind) 35 v_open) 71 v_number) 65 v_numbers) 72 v_code) 66 v_length) 33 n_14) 34 n_15)) H := hP
            have hD : va_D A (prw y ad (sI (sI (sI (tI (sI (tI (sI (sI (sI (sI (sI σ 36 v_kindOfFault) 37 v_bytesIntoToken) 33 v_at) 34 v_kind) 35 v_open) 71 v_number) 65 v_numbers) 72 v_code) 66 v_length) 33 n_14) 34 n_15)) := hD
            replace hw : True := hw
            refine lv_aload_n hx hb dX5_both_32 rfl (lv_at hl 1 rfl) ?_
            refine x_calliW (va_runV (As := []) (rest := []) ⟨hx, hb, hml, hown, hts⟩ (z_factR l D y H.size ad (sI (sI (sI (tI (sI (tI (sI (sI (sI (sI (sI σ 36 v_kindOfFault) 37 v_bytesIntoToken) 33 v_at) 34 v_kind) 35 v_open) 71 v_number) 65 v_numbers) 72 v_code) 66 v_length) 33 n_14) 34 n_15) d iht ihf (show 8 - (v_open).toInt ≤ (d : Int) from by first | omega | decide) (show 0 ≤ (v_open).toInt from by first | omega | decide) (show (v_open).toInt ≤ 8 from by first | omega | decide) (show 0 ≤ ((σ.1 45)).toInt from by first | omega | decide) (show ((σ.1 45)).toInt ≤ 700 from by first | omega | decide) (show 0 ≤ (v_length).toInt from by first | omega | decide) (show (v_length).toInt ≤ 700 from by first | omega | decide) (show 0 ≤ (v_numbers).toInt from by first | omega | decide) (show (v_numbers).toInt ≤ 350 from by first | omega | decide) (show 0 ≤ ((σ.1 68)).toInt from by first | omega | decide) (show ((σ.1 68)).toInt ≤ 24 from by first | omega | decide)) (cwV 0 hts (goodIn_cl hCLt (List.mem_of_getElem? (i := 7) rfl) (List.mem_of_getElem? (i := 8) rfl) (List.mem_of_getElem? (i := 9) rfl) (List.mem_of_getElem? (i := 3) rfl) (List.mem_of_getElem? (i := 10) rfl)) rfl rfl rfl (by decide +kernel) ⟨by (try dsimp only); omega, by (try dsimp only); omega⟩) (x_preV (q := (RX5, TX5, 8)) hK hP hD (ci := 4) (q0 := 0) rfl prw_o0) rfl rfl hl.1 rfl (lv_room (Nat.le_of_ble_eq_true rfl)) dX5_both_33 ⟨Nat.le_of_ble_eq_true rfl, Nat.le_of_ble_eq_true rfl⟩) hP hD hS hA (fun r_16 u H locs hw hP hD hS => ?_)
            obtain ⟨n_17, n_18, n_19, n_20, n_21, f_22, n_23, f_24, n_25⟩ := u
            try dsimp only at hw
            have hP : va_P D vwCl (prw y ad (sI (tI (sI (tI (sI (sI (sI (sI (sI (sI (sI (sI (tI (sI (tI (sI (sI (sI (sI (sI σ 36 v_kindOfFault) 37 v_bytesIntoToken) 33 v_at) 34 v_kind) 35 v_open) 71 v_number) 65 v_numbers) 72 v_code) 66 v_length) 33 n_14) 34 n_15) 36 n_17) 37 n_18) 33 n_19) 34 n_20) 35 n_21) 71 f_22) 65 n_23) 72 f_24) 66 n_25)) H := hP
            have hD : va_D A (prw y ad (sI (tI (sI (tI (sI (sI (sI (sI (sI (sI (sI (sI (tI (sI (tI (sI (sI (sI (sI (sI σ 36 v_kindOfFault) 37 v_bytesIntoToken) 33 v_at) 34 v_kind) 35 v_open) 71 v_number) 65 v_numbers) 72 v_code) 66 v_length) 33 n_14) 34 n_15) 36 n_17) 37 n_18) 33 n_19) 34 n_20) 35 n_21) 71 f_22) 65 n_23) 72 f_24) 66 n_25)) := hD
            replace hw : 0 ≤ n_21.toInt ∧ n_21.toInt ≤ 8 ∧ 0 ≤ n_25.toInt ∧ n_25.toInt ≤ 700 ∧ 0 ≤ n_23.toInt ∧ n_23.toInt ≤ 350 ∧ (r_16.toInt = 0 ∨ r_16.toInt = 1) ∧ (r_16.toInt = 1 → n_21.toInt = (v_open).toInt) := hw
            obtain ⟨ho2, hp2, hq2, hr2, hs2, ht2, hu2, hv2⟩ := hw
            have hw := hu2
            refine lv_if_ne (tgt := 41) hx hb dX5_both_36 (by decide) (fun c_26 => ?_) (fun c_26 => ?_)
            · have kc_26 : r_16.toInt ≠ 0 := by have h9 := c_26; simp only [ge_iff_le, gt_iff_lt, x_lt, x_le, x_eq, ne_eq, Int32.not_lt, Int32.not_le] at h9; simp only [Int32.reduceToInt] at h9; omega
              refine lv_aload_n hx hb dX5_both_41 rfl (lv_at hl 1 rfl) ?_
              refine va_get (D := D) (ci := 4) (v := .ref (ad 60)) (C := RX5) (T := TX5) (N := 8) hx hb hts inX5 hown hK hP 0 prw_o0 rfl 1 (by decide) fl34 (fun _ h9 => h9) rfl dX5_both_42 ?_
              refine lv_bipush (v := 17) hx hb dX5_both_45 (by decide) ?_
              refine lv_iconst (v := 0) hx hb dX5_both_47 (by decide) ?_
              have hPs : va_P D vwCl (pgw y ad (sI (tI (sI (tI (sI (sI (sI (sI (sI (sI (sI (sI (tI (sI (tI (sI (sI (sI (sI (sI σ 36 v_kindOfFault) 37 v_bytesIntoToken) 33 v_at) 34 v_kind) 35 v_open) 71 v_number) 65 v_numbers) 72 v_code) 66 v_length) 33 n_14) 34 n_15) 36 n_17) 37 n_18) 33 n_19) 34 n_20) 35 n_21) 71 f_22) 65 n_23) 72 f_24) 66 n_25)) H := x_suP hP [2, 7, 8, 9, 10, 11, 12] rfl
              have hDs : va_D A (pgw y ad (sI (tI (sI (tI (sI (sI (sI (sI (sI (sI (sI (sI (tI (sI (tI (sI (sI (sI (sI (sI σ 36 v_kindOfFault) 37 v_bytesIntoToken) 33 v_at) 34 v_kind) 35 v_open) 71 v_number) 65 v_numbers) 72 v_code) 66 v_length) 33 n_14) 34 n_15) 36 n_17) 37 n_18) 33 n_19) 34 n_20) 35 n_21) 71 f_22) 65 n_23) 72 f_24) 66 n_25)) := x_suD hD [2, 7, 8, 9, 10, 11, 12] rfl (by decide)
              refine x_callvS (b1 := fun (u : (Nat → Int32) × Int32) => (prw y ad (sI (tI (sI (tI (sI (tI (sI (sI (sI (sI (sI (sI (sI (sI (tI (sI (tI (sI (sI (sI (sI (sI σ 36 v_kindOfFault) 37 v_bytesIntoToken) 33 v_at) 34 v_kind) 35 v_open) 71 v_number) 65 v_numbers) 72 v_code) 66 v_length) 33 n_14) 34 n_15) 36 n_17) 37 n_18) 33 n_19) 34 n_20) 35 n_21) 71 f_22) 65 n_23) 72 f_24) 66 n_25) 72 u.1) 66 u.2))) [2, 7, 8, 9, 10, 11, 12] (va_runV (As := [.int 17, .int 0]) (rest := []) ⟨hx, hb, hml, hown, hts⟩ (w_emit l D y H.size ad (sI (tI (sI (tI (sI (sI (sI (sI (sI (sI (sI (sI (tI (sI (tI (sI (sI (sI (sI (sI σ 36 v_kindOfFault) 37 v_bytesIntoToken) 33 v_at) 34 v_kind) 35 v_open) 71 v_number) 65 v_numbers) 72 v_code) 66 v_length) 33 n_14) 34 n_15) 36 n_17) 37 n_18) 33 n_19) 34 n_20) 35 n_21) 71 f_22) 65 n_23) 72 f_24) 66 n_25) 17 0 (show 0 ≤ (n_25).toInt from by first | omega | decide) (show (n_25).toInt ≤ 700 from by first | omega | decide)) (cwV 2 hts (goodIn_cons gCLt_1) rfl rfl rfl (by decide +kernel) ⟨by (try dsimp only); omega, by (try dsimp only); omega⟩) (x_preV (q := (RX6, TX6, 13)) hK hPs hDs (ci := 5) (q0 := 0) rfl pgw_o0) rfl rfl hl.1 rfl (lv_room (Nat.le_of_ble_eq_true rfl)) dX5_both_48 ⟨Nat.le_of_ble_eq_true rfl, Nat.le_of_ble_eq_true rfl⟩) hP hD hS hA rfl (fun _ => rfl) (fun _ => rfl) (fun _ => rfl) (fun u H locs hw hP hD hS => ?_)
              obtain ⟨f_27, n_28⟩ := u
              try dsimp only at hw
              have hP : va_P D vwCl (prw y ad (sI (tI (sI (tI (sI (tI (sI (sI (sI (sI (sI (sI (sI (sI (tI (sI (tI (sI (sI (sI (sI (sI σ 36 v_kindOfFault) 37 v_bytesIntoToken) 33 v_at) 34 v_kind) 35 v_open) 71 v_number) 65 v_numbers) 72 v_code) 66 v_length) 33 n_14) 34 n_15) 36 n_17) 37 n_18) 33 n_19) 34 n_20) 35 n_21) 71 f_22) 65 n_23) 72 f_24) 66 n_25) 72 f_27) 66 n_28)) H := hP
              have hD : va_D A (prw y ad (sI (tI (sI (tI (sI (tI (sI (sI (sI (sI (sI (sI (sI (sI (tI (sI (tI (sI (sI (sI (sI (sI σ 36 v_kindOfFault) 37 v_bytesIntoToken) 33 v_at) 34 v_kind) 35 v_open) 71 v_number) 65 v_numbers) 72 v_code) 66 v_length) 33 n_14) 34 n_15) 36 n_17) 37 n_18) 33 n_19) 34 n_20) 35 n_21) 71 f_22) 65 n_23) 72 f_24) 66 n_25) 72 f_27) 66 n_28)) := hD
              replace hw : 0 ≤ n_28.toInt ∧ n_28.toInt ≤ 700 := hw
              obtain ⟨i_29, ei_29⟩ : ∃ z9 : Int32, z9 = i + 1 := ⟨_, rfl⟩
              have vi_29 : i_29.toInt = i.toInt + 1 := by have h9 := x_add ei_29 (by omega) (by omega); omega
              refine lv_iinc (v := i_29) (lv' := [(1, .int i_29), (0, .ref (ad 30))]) hx hb dX5_both_51 hl (k := 0) rfl (by rw [ei_29]; rfl) (by decide) rfl (fun ls hl => ?_)
              refine lv_goto (tgt := 11) hx hb dX5_both_54 (by decide) ?_
              have hP : va_P D vwCl (prw y ad (sI (tI (sI (tI (sI (sI (sI (sI (sI σ 36 n_17) 37 n_18) 33 n_19) 34 n_20) 35 n_21) 71 f_22) 65 n_23) 72 f_27) 66 n_28)) H := hP
              have hD : va_D A (prw y ad (sI (tI (sI (tI (sI (sI (sI (sI (sI σ 36 n_17) 37 n_18) 33 n_19) 34 n_20) 35 n_21) 71 f_22) 65 n_23) 72 f_27) 66 n_28)) := hD
              exact ih_loop i_29 n_17 n_18 n_19 n_20 n_21 f_22 n_23 f_27 n_28 H locs ls (by omega) (by omega) (by omega) (by omega) (by omega) (by omega) (by omega) (by omega) hP hD hS (lv_sub hl [0, 1] rfl)
            · have kc_26 : r_16.toInt = 0 := by have h9 := c_26; simp only [ge_iff_le, gt_iff_lt, x_lt, x_le, x_eq, ne_eq, Int32.not_lt, Int32.not_le] at h9; simp only [Int32.reduceToInt] at h9; omega
              refine lv_iconst (v := 0) hx hb dX5_both_39 (by decide) ?_
              have hP : va_P D vwCl (prw y ad (sI (tI (sI (tI (sI (sI (sI (sI (sI σ 36 n_17) 37 n_18) 33 n_19) 34 n_20) 35 n_21) 71 f_22) 65 n_23) 72 f_24) 66 n_25)) H := hP
              have hD : va_D A (prw y ad (sI (tI (sI (tI (sI (sI (sI (sI (sI σ 36 n_17) 37 n_18) 33 n_19) 34 n_20) 35 n_21) 71 f_22) 65 n_23) 72 f_24) 66 n_25)) := hD
              exact x_zretW (v := 0) (u := (n_17, n_18, n_19, n_20, n_21, f_22, n_23, f_24, n_25)) hx hb hr hQ rfl (by (try dsimp only); exact ⟨by omega, by omega, by omega, by omega, by omega, by omega, by first | decide | omega, by first | omega | exact fun h9 => absurd h9 (by decide)⟩) hP hD hK hS dX5_both_40 hlocks
    exact loop 701 0 n_2 n_3 n_4 n_5 n_6 f_7 n_8 f_9 n_10 H locs ls (by decide) (by decide) (by omega) (by omega) (by omega) (by omega) (by omega) (by omega) hP hD hS (lv_sub hl [0, 1] rfl)
  · have kc_11 : r_1.toInt = 0 := by have h9 := c_11; simp only [ge_iff_le, gt_iff_lt, x_lt, x_le, x_eq, ne_eq, Int32.not_lt, Int32.not_le] at h9; simp only [Int32.reduceToInt] at h9; omega
    refine lv_iconst (v := 0) hx hb dX5_both_7 (by decide) ?_
    exact x_zretW (v := 0) (u := (n_2, n_3, n_4, n_5, n_6, f_7, n_8, f_9, n_10)) hx hb hr hQ rfl (by (try dsimp only); exact ⟨by omega, by omega, by omega, by omega, by omega, by omega, by first | decide | omega, by first | omega | exact fun h9 => absurd h9 (by decide)⟩) hP hD hK hS dX5_both_8 hlocks

set_option maxHeartbeats 4000000 in
set_option maxRecDepth 100000 in
theorem z_testR (l : Launch) (D : va_G) (y : Nat → ClassId) (sz : Nat) (ad : Nat → Nat) (σ : OS) (d : Nat) (iht : ∀ e : Nat, d = e + 1 → C_test e) (ihf : ∀ e : Nat, d = e + 1 → C_fact e) (hdp : 8 - (σ.1 35).toInt ≤ (d : Int)) (hopen0 : 0 ≤ (σ.1 35).toInt) (hopen1 : (σ.1 35).toInt ≤ 8) (htcount0 : 0 ≤ (σ.1 45).toInt) (htcount1 : (σ.1 45).toInt ≤ 700) (hlength0 : 0 ≤ (σ.1 66).toInt) (hlength1 : (σ.1 66).toInt ≤ 700) (hnumbers0 : 0 ≤ (σ.1 65).toInt) (hnumbers1 : (σ.1 65).toInt ≤ 350) (hnames0 : 0 ≤ (σ.1 68).toInt) (hnames1 : (σ.1 68).toInt ≤ 24) : Met l yX5_test v_z_testR ({ frames := 3 * d + 70, cells := 0, slots := 0, locals := 90 * d + 2000 } : Room) (va_Pc [.ref (ad 30)] (xPre D (xT y) (prw y ad σ) sz)) (va_Qi (fun (r : Int32) (u : Int32 × Int32 × Int32 × Int32 × Int32 × (Nat → Int32) × Int32 × (Nat → Int32) × Int32) => 0 ≤ u.2.2.2.2.1.toInt ∧ u.2.2.2.2.1.toInt ≤ 8 ∧ 0 ≤ u.2.2.2.2.2.2.2.2.toInt ∧ u.2.2.2.2.2.2.2.2.toInt ≤ 700 ∧ 0 ≤ u.2.2.2.2.2.2.1.toInt ∧ u.2.2.2.2.2.2.1.toInt ≤ 350 ∧ (r.toInt = 0 ∨ r.toInt = 1) ∧ (r.toInt = 1 → u.2.2.2.2.1.toInt = (σ.1 35).toInt)) (fun (u : Int32 × Int32 × Int32 × Int32 × Int32 × (Nat → Int32) × Int32 × (Nat → Int32) × Int32) => xB D (xT y) (va_A (prw y ad σ) sz) (prw y ad (sI (tI (sI (tI (sI (sI (sI (sI (sI σ 36 u.1) 37 u.2.1) 33 u.2.2.1) 34 u.2.2.2.1) 35 u.2.2.2.2.1) 71 u.2.2.2.2.2.1) 65 u.2.2.2.2.2.2.1) 72 u.2.2.2.2.2.2.2.1) 66 u.2.2.2.2.2.2.2.2))) (va_A (prw y ad σ) sz)) 0 0 (va_A (prw y ad σ) sz) := by
  refine x_meti (cc := cX5_test) (maxL := 2) (by decide) rfl (Nat.le_of_ble_eq_true rfl) ?_
  intro p e s m below meth c A H locs Q hx hb hml hown hts hr hlocks hmn hA hP hK hD hS ls hl hQ
  have hl : lv_has ls 2 [(0, .ref (ad 30))] := hl
  have kk_0 : (0 : Int32).toInt = 0 := rfl
  have kk_700 : (700 : Int32).toInt = 700 := rfl
  have kk_1 : (1 : Int32).toInt = 1 := rfl
  have fl45 := hts (.fieldLink RX5 45 "SlopeRunner$Parser" "kind" "I") (List.mem_of_getElem? (i := 6) rfl)
  have inX5 : ∀ w ∈ wsX50, w ∈ v_z_testR := (fun w h => List.mem_cons_of_mem _ (List.mem_append_right _ (List.mem_append_right _ (List.mem_append_right _ (List.mem_append_right _ (List.mem_append_right _ (List.mem_append_right _ (List.mem_append_right _ (List.mem_append_right _ h)))))))))
  have kk_271 : (271 : Int32).toInt = 271 := rfl
  have fl34 := hts (.fieldLink RX5 34 "SlopeRunner$Parser" "into" "LSlopeRunner$Program;") (List.mem_of_getElem? (i := 7) rfl)
  have kk_18 : (18 : Int32).toInt = 18 := rfl
  refine lv_aload_n hx hb dX5_test_0 rfl (lv_at hl 0 rfl) ?_
  refine x_calliW (va_runV (As := []) (rest := []) ⟨hx, hb, hml, hown, hts⟩ (z_bothR l D y H.size ad σ d iht ihf (show 8 - ((σ.1 35)).toInt ≤ (d : Int) from by first | omega | decide) (show 0 ≤ ((σ.1 35)).toInt from by first | omega | decide) (show ((σ.1 35)).toInt ≤ 8 from by first | omega | decide) (show 0 ≤ ((σ.1 45)).toInt from by first | omega | decide) (show ((σ.1 45)).toInt ≤ 700 from by first | omega | decide) (show 0 ≤ ((σ.1 66)).toInt from by first | omega | decide) (show ((σ.1 66)).toInt ≤ 700 from by first | omega | decide) (show 0 ≤ ((σ.1 65)).toInt from by first | omega | decide) (show ((σ.1 65)).toInt ≤ 350 from by first | omega | decide) (show 0 ≤ ((σ.1 68)).toInt from by first | omega | decide) (show ((σ.1 68)).toInt ≤ 24 from by first | omega | decide)) (cwV 0 hts (goodIn_cl hCLt (List.mem_of_getElem? (i := 0) rfl) (List.mem_of_getElem? (i := 1) rfl) (List.mem_of_getElem? (i := 2) rfl) (List.mem_of_getElem? (i := 3) rfl) (List.mem_of_getElem? (i := 4) rfl)) rfl rfl rfl (by decide +kernel) ⟨by (try dsimp only); omega, by (try dsimp only); omega⟩) (x_preV (q := (RX5, TX5, 8)) hK hP hD (ci := 4) (q0 := 0) rfl prw_o0) rfl rfl hl.1 rfl (lv_room (Nat.le_of_ble_eq_true rfl)) dX5_test_1 ⟨Nat.le_of_ble_eq_true rfl, Nat.le_of_ble_eq_true rfl⟩) hP hD hS hA (fun r_1 u H locs hw hP hD hS => ?_)
  obtain ⟨n_2, n_3, n_4, n_5, n_6, f_7, n_8, f_9, n_10⟩ := u
  try dsimp only at hw
  have hP : va_P D vwCl (prw y ad (sI (tI (sI (tI (sI (sI (sI (sI (sI σ 36 n_2) 37 n_3) 33 n_4) 34 n_5) 35 n_6) 71 f_7) 65 n_8) 72 f_9) 66 n_10)) H := hP
  have hD : va_D A (prw y ad (sI (tI (sI (tI (sI (sI (sI (sI (sI σ 36 n_2) 37 n_3) 33 n_4) 34 n_5) 35 n_6) 71 f_7) 65 n_8) 72 f_9) 66 n_10)) := hD
  replace hw : 0 ≤ n_6.toInt ∧ n_6.toInt ≤ 8 ∧ 0 ≤ n_10.toInt ∧ n_10.toInt ≤ 700 ∧ 0 ≤ n_8.toInt ∧ n_8.toInt ≤ 350 ∧ (r_1.toInt = 0 ∨ r_1.toInt = 1) ∧ (r_1.toInt = 1 → n_6.toInt = ((σ.1 35)).toInt) := hw
  obtain ⟨ho1, hp1, hq1, hr1, hs1, ht1, hu1, hv1⟩ := hw
  have hw := hu1
  refine lv_if_ne (tgt := 9) hx hb dX5_test_4 (by decide) (fun c_11 => ?_) (fun c_11 => ?_)
  · have kc_11 : r_1.toInt ≠ 0 := by have h9 := c_11; simp only [ge_iff_le, gt_iff_lt, x_lt, x_le, x_eq, ne_eq, Int32.not_lt, Int32.not_le] at h9; simp only [Int32.reduceToInt] at h9; omega
    refine lv_iconst (v := 0) hx hb dX5_test_9 (by decide) ?_
    refine lv_istore_n (lv' := [(1, .int 0), (0, .ref (ad 30))]) hx hb dX5_test_10 rfl hl (by decide) rfl (fun ls hl => ?_)
    have l00 : (0 : Int32).toInt = 0 := rfl
    have loop : ∀ (fu : Nat) (i : Int32) (v_kindOfFault : Int32) (v_bytesIntoToken : Int32) (v_at : Int32) (v_kind : Int32) (v_open : Int32) (v_number : Nat → Int32) (v_numbers : Int32) (v_code : Nat → Int32) (v_length : Int32) (H : Heap) (locs : List Loc) (ls : Array Slot), (0 ≤ i.toInt) → (i.toInt ≤ 700) → (v_open.toInt = (σ.1 35).toInt) → (0 ≤ v_length.toInt) → (v_length.toInt ≤ 700) → (0 ≤ v_numbers.toInt) → (v_numbers.toInt ≤ 350) → (700 - i.toInt < (fu : Int)) → va_P D vwCl (prw y ad (sI (tI (sI (tI (sI (sI (sI (sI (sI σ 36 v_kindOfFault) 37 v_bytesIntoToken) 33 v_at) 34 v_kind) 35 v_open) 71 v_number) 65 v_numbers) 72 v_code) 66 v_length)) H → va_D A (prw y ad (sI (tI (sI (tI (sI (sI (sI (sI (sI σ 36 v_kindOfFault) 37 v_bytesIntoToken) 33 v_at) 34 v_kind) 35 v_open) 71 v_number) 65 v_numbers) 72 v_code) 66 v_length)) → va_S A s.heap H locs → lv_has ls 2 [(1, .int i), (0, .ref (ad 30))] → W p l e ({ frames := 3 * d + 70, cells := 0, slots := 0, locals := 90 * d + 2000 } : Room) s m ([.ref (ad 30)] : List Value).toArray below meth c H locs 0 0 Q (F0 m 11 ls []) := by
      intro fu
      induction fu with
      | zero =>
        intro i v_kindOfFault v_bytesIntoToken v_at v_kind v_open v_number v_numbers v_code v_length H locs ls hi0 hi1 hop hvlength0 hvlength1 hvnumbers0 hvnumbers1 hm
        exact absurd hm (by omega)
      | succ fu ih_loop =>
        intro i v_kindOfFault v_bytesIntoToken v_at v_kind v_open v_number v_numbers v_code v_length H locs ls hi0 hi1 hop hvlength0 hvlength1 hvnumbers0 hvnumbers1 hm hP hD hS hl
        refine lv_iload_n hx hb dX5_test_11 rfl (lv_at hl 0 rfl) ?_
        refine lv_sipush (v := 700) hx hb dX5_test_12 (by decide) ?_
        refine lv_icmp_ge (tgt := 57) hx hb dX5_test_15 (by decide) (fun c_12 => ?_) (fun c_12 => ?_)
        · have kc_12 : i.toInt ≥ 700 := by have h9 := c_12; simp only [ge_iff_le, gt_iff_lt, x_lt, x_le, x_eq, ne_eq, Int32.not_lt, Int32.not_le] at h9; simp only [Int32.reduceToInt] at h9; omega
          refine lv_iconst (v := 1) hx hb dX5_test_57 (by decide) ?_
          exact x_zretW (v := 1) (u := (v_kindOfFault, v_bytesIntoToken, v_at, v_kind, v_open, v_number, v_numbers, v_code, v_length)) hx hb hr hQ rfl (by (try dsimp only); exact ⟨by omega, by omega, by omega, by omega, by omega, by omega, by first | decide | omega, by first | omega | exact fun h9 => absurd h9 (by decide)⟩) hP hD hK hS dX5_test_58 hlocks
        · have kc_12 : i.toInt < 700 := by have h9 := c_12; simp only [ge_iff_le, gt_iff_lt, x_lt, x_le, x_eq, ne_eq, Int32.not_lt, Int32.not_le] at h9; simp only [Int32.reduceToInt] at h9; omega
          refine lv_aload_n hx hb dX5_test_18 rfl (lv_at hl 1 rfl) ?_
          refine va_get (D := D) (ci := 4) (v := .int v_kind) (C := RX5) (T := TX5) (N := 8) hx hb hts inX5 hown hK hP 0 prw_o0 rfl 3 (by decide) fl45 (fun _ h9 => h9) rfl dX5_test_19 ?_
          refine lv_sipush (v := 271) hx hb dX5_test_22 (by decide) ?_
          refine lv_icmp_ne (tgt := 57) hx hb dX5_test_25 (by decide) (fun c_13 => ?_) (fun c_13 => ?_)
          · have kc_13 : v_kind.toInt ≠ 271 := by have h9 := c_13; simp only [ge_iff_le, gt_iff_lt, x_lt, x_le, x_eq, ne_eq, Int32.not_lt, Int32.not_le] at h9; simp only [Int32.reduceToInt] at h9; omega
            refine lv_iconst (v := 1) hx hb dX5_test_57 (by decide) ?_
            exact x_zretW (v := 1) (u := (v_kindOfFault, v_bytesIntoToken, v_at, v_kind, v_open, v_number, v_numbers, v_code, v_length)) hx hb hr hQ rfl (by (try dsimp only); exact ⟨by omega, by omega, by omega, by omega, by omega, by omega, by first | decide | omega, by first | omega | exact fun h9 => absurd h9 (by decide)⟩) hP hD hK hS dX5_test_58 hlocks
          · have kc_13 : v_kind.toInt = 271 := by have h9 := c_13; simp only [ge_iff_le, gt_iff_lt, x_lt, x_le, x_eq, ne_eq, Int32.not_lt, Int32.not_le] at h9; simp only [Int32.reduceToInt] at h9; omega
            refine lv_aload_n hx hb dX5_test_28 rfl (lv_at hl 1 rfl) ?_
            refine x_callvW (va_runV (As := []) (rest := []) ⟨hx, hb, hml, hown, hts⟩ (z_pass l D y H.size ad (sI (tI (sI (tI (sI (sI (sI (sI (sI σ 36 v_kindOfFault) 37 v_bytesIntoToken) 33 v_at) 34 v_kind) 35 v_open) 71 v_number) 65 v_numbers) 72 v_code) 66 v_length) (show 0 ≤ ((σ.1 45)).toInt from by first | omega | decide) (show ((σ.1 45)).toInt ≤ 700 from by first | omega | decide)) (cwV 0 hts (goodIn_cons gCLt_0) rfl rfl rfl (by decide +kernel) ⟨by (try dsimp only); omega, by (try dsimp only); omega⟩) (x_preV (q := (RX5, TX5, 8)) hK hP hD (ci := 4) (q0 := 0) rfl prw_o0) rfl rfl hl.1 rfl (lv_room (Nat.le_of_ble_eq_true rfl)) dX5_test_29 ⟨Nat.le_of_ble_eq_true rfl, Nat.le_of_ble_eq_true rfl⟩) hP hD hS hA (fun u H locs hw hP hD hS => ?_)
            obtain ⟨n_14, n_15⟩ := u
            try dsimp only at hw
            have hP : va_P D vwCl (prw y ad (sI (sI (sI (tI (sI (tI (sI (sI (sI (sI (sI σ 36 v_kindOfFault) 37 v_bytesIntoToken) 33 v_at) 34 v_kind) 35 v_open) 71 v_number) 65 v_numbers) 72 v_code) 66 v_length) 33 n_14) 34 n_15)) H := hP
            have hD : va_D A (prw y ad (sI (sI (sI (tI (sI (tI (sI (sI (sI (sI (sI σ 36 v_kindOfFault) 37 v_bytesIntoToken) 33 v_at) 34 v_kind) 35 v_open) 71 v_number) 65 v_numbers) 72 v_code) 66 v_length) 33 n_14) 34 n_15)) := hD
            replace hw : True := hw
            refine lv_aload_n hx hb dX5_test_32 rfl (lv_at hl 1 rfl) ?_
            refine x_calliW (va_runV (As := []) (rest := []) ⟨hx, hb, hml, hown, hts⟩ (z_bothR l D y H.size ad (sI (sI (sI (tI (sI (tI (sI (sI (sI (sI (sI σ 36 v_kindOfFault) 37 v_bytesIntoToken) 33 v_at) 34 v_kind) 35 v_open) 71 v_number) 65 v_numbers) 72 v_code) 66 v_length) 33 n_14) 34 n_15) d iht ihf (show 8 - (v_open).toInt ≤ (d : Int) from by first | omega | decide) (show 0 ≤ (v_open).toInt from by first | omega | decide) (show (v_open).toInt ≤ 8 from by first | omega | decide) (show 0 ≤ ((σ.1 45)).toInt from by first | omega | decide) (show ((σ.1 45)).toInt ≤ 700 from by first | omega | decide) (show 0 ≤ (v_length).toInt from by first | omega | decide) (show (v_length).toInt ≤ 700 from by first | omega | decide) (show 0 ≤ (v_numbers).toInt from by first | omega | decide) (show (v_numbers).toInt ≤ 350 from by first | omega | decide) (show 0 ≤ ((σ.1 68)).toInt from by first | omega | decide) (show ((σ.1 68)).toInt ≤ 24 from by first | omega | decide)) (cwV 0 hts (goodIn_cl hCLt (List.mem_of_getElem? (i := 0) rfl) (List.mem_of_getElem? (i := 1) rfl) (List.mem_of_getElem? (i := 2) rfl) (List.mem_of_getElem? (i := 3) rfl) (List.mem_of_getElem? (i := 4) rfl)) rfl rfl rfl (by decide +kernel) ⟨by (try dsimp only); omega, by (try dsimp only); omega⟩) (x_preV (q := (RX5, TX5, 8)) hK hP hD (ci := 4) (q0 := 0) rfl prw_o0) rfl rfl hl.1 rfl (lv_room (Nat.le_of_ble_eq_true rfl)) dX5_test_33 ⟨Nat.le_of_ble_eq_true rfl, Nat.le_of_ble_eq_true rfl⟩) hP hD hS hA (fun r_16 u H locs hw hP hD hS => ?_)
            obtain ⟨n_17, n_18, n_19, n_20, n_21, f_22, n_23, f_24, n_25⟩ := u
            try dsimp only at hw
            have hP : va_P D vwCl (prw y ad (sI (tI (sI (tI (sI (sI (sI (sI (sI (sI (sI (sI (tI (sI (tI (sI (sI (sI (sI (sI σ 36 v_kindOfFault) 37 v_bytesIntoToken) 33 v_at) 34 v_kind) 35 v_open) 71 v_number) 65 v_numbers) 72 v_code) 66 v_length) 33 n_14) 34 n_15) 36 n_17) 37 n_18) 33 n_19) 34 n_20) 35 n_21) 71 f_22) 65 n_23) 72 f_24) 66 n_25)) H := hP
            have hD : va_D A (prw y ad (sI (tI (sI (tI (sI (sI (sI (sI (sI (sI (sI (sI (tI (sI (tI (sI (sI (sI (sI (sI σ 36 v_kindOfFault) 37 v_bytesIntoToken) 33 v_at) 34 v_kind) 35 v_open) 71 v_number) 65 v_numbers) 72 v_code) 66 v_length) 33 n_14) 34 n_15) 36 n_17) 37 n_18) 33 n_19) 34 n_20) 35 n_21) 71 f_22) 65 n_23) 72 f_24) 66 n_25)) := hD
            replace hw : 0 ≤ n_21.toInt ∧ n_21.toInt ≤ 8 ∧ 0 ≤ n_25.toInt ∧ n_25.toInt ≤ 700 ∧ 0 ≤ n_23.toInt ∧ n_23.toInt ≤ 350 ∧ (r_16.toInt = 0 ∨ r_16.toInt = 1) ∧ (r_16.toInt = 1 → n_21.toInt = (v_open).toInt) := hw
            obtain ⟨ho2, hp2, hq2, hr2, hs2, ht2, hu2, hv2⟩ := hw
            have hw := hu2
            refine lv_if_ne (tgt := 41) hx hb dX5_test_36 (by decide) (fun c_26 => ?_) (fun c_26 => ?_)
            · have kc_26 : r_16.toInt ≠ 0 := by have h9 := c_26; simp only [ge_iff_le, gt_iff_lt, x_lt, x_le, x_eq, ne_eq, Int32.not_lt, Int32.not_le] at h9; simp only [Int32.reduceToInt] at h9; omega
              refine lv_aload_n hx hb dX5_test_41 rfl (lv_at hl 1 rfl) ?_
              refine va_get (D := D) (ci := 4) (v := .ref (ad 60)) (C := RX5) (T := TX5) (N := 8) hx hb hts inX5 hown hK hP 0 prw_o0 rfl 1 (by decide) fl34 (fun _ h9 => h9) rfl dX5_test_42 ?_
              refine lv_bipush (v := 18) hx hb dX5_test_45 (by decide) ?_
              refine lv_iconst (v := 0) hx hb dX5_test_47 (by decide) ?_
              have hPs : va_P D vwCl (pgw y ad (sI (tI (sI (tI (sI (sI (sI (sI (sI (sI (sI (sI (tI (sI (tI (sI (sI (sI (sI (sI σ 36 v_kindOfFault) 37 v_bytesIntoToken) 33 v_at) 34 v_kind) 35 v_open) 71 v_number) 65 v_numbers) 72 v_code) 66 v_length) 33 n_14) 34 n_15) 36 n_17) 37 n_18) 33 n_19) 34 n_20) 35 n_21) 71 f_22) 65 n_23) 72 f_24) 66 n_25)) H := x_suP hP [2, 7, 8, 9, 10, 11, 12] rfl
              have hDs : va_D A (pgw y ad (sI (tI (sI (tI (sI (sI (sI (sI (sI (sI (sI (sI (tI (sI (tI (sI (sI (sI (sI (sI σ 36 v_kindOfFault) 37 v_bytesIntoToken) 33 v_at) 34 v_kind) 35 v_open) 71 v_number) 65 v_numbers) 72 v_code) 66 v_length) 33 n_14) 34 n_15) 36 n_17) 37 n_18) 33 n_19) 34 n_20) 35 n_21) 71 f_22) 65 n_23) 72 f_24) 66 n_25)) := x_suD hD [2, 7, 8, 9, 10, 11, 12] rfl (by decide)
              refine x_callvS (b1 := fun (u : (Nat → Int32) × Int32) => (prw y ad (sI (tI (sI (tI (sI (tI (sI (sI (sI (sI (sI (sI (sI (sI (tI (sI (tI (sI (sI (sI (sI (sI σ 36 v_kindOfFault) 37 v_bytesIntoToken) 33 v_at) 34 v_kind) 35 v_open) 71 v_number) 65 v_numbers) 72 v_code) 66 v_length) 33 n_14) 34 n_15) 36 n_17) 37 n_18) 33 n_19) 34 n_20) 35 n_21) 71 f_22) 65 n_23) 72 f_24) 66 n_25) 72 u.1) 66 u.2))) [2, 7, 8, 9, 10, 11, 12] (va_runV (As := [.int 18, .int 0]) (rest := []) ⟨hx, hb, hml, hown, hts⟩ (w_emit l D y H.size ad (sI (tI (sI (tI (sI (sI (sI (sI (sI (sI (sI (sI (tI (sI (tI (sI (sI (sI (sI (sI σ 36 v_kindOfFault) 37 v_bytesIntoToken) 33 v_at) 34 v_kind) 35 v_open) 71 v_number) 65 v_numbers) 72 v_code) 66 v_length) 33 n_14) 34 n_15) 36 n_17) 37 n_18) 33 n_19) 34 n_20) 35 n_21) 71 f_22) 65 n_23) 72 f_24) 66 n_25) 18 0 (show 0 ≤ (n_25).toInt from by first | omega | decide) (show (n_25).toInt ≤ 700 from by first | omega | decide)) (cwV 2 hts (goodIn_cons gCLt_1) rfl rfl rfl (by decide +kernel) ⟨by (try dsimp only); omega, by (try dsimp only); omega⟩) (x_preV (q := (RX6, TX6, 13)) hK hPs hDs (ci := 5) (q0 := 0) rfl pgw_o0) rfl rfl hl.1 rfl (lv_room (Nat.le_of_ble_eq_true rfl)) dX5_test_48 ⟨Nat.le_of_ble_eq_true rfl, Nat.le_of_ble_eq_true rfl⟩) hP hD hS hA rfl (fun _ => rfl) (fun _ => rfl) (fun _ => rfl) (fun u H locs hw hP hD hS => ?_)
              obtain ⟨f_27, n_28⟩ := u
              try dsimp only at hw
              have hP : va_P D vwCl (prw y ad (sI (tI (sI (tI (sI (tI (sI (sI (sI (sI (sI (sI (sI (sI (tI (sI (tI (sI (sI (sI (sI (sI σ 36 v_kindOfFault) 37 v_bytesIntoToken) 33 v_at) 34 v_kind) 35 v_open) 71 v_number) 65 v_numbers) 72 v_code) 66 v_length) 33 n_14) 34 n_15) 36 n_17) 37 n_18) 33 n_19) 34 n_20) 35 n_21) 71 f_22) 65 n_23) 72 f_24) 66 n_25) 72 f_27) 66 n_28)) H := hP
              have hD : va_D A (prw y ad (sI (tI (sI (tI (sI (tI (sI (sI (sI (sI (sI (sI (sI (sI (tI (sI (tI (sI (sI (sI (sI (sI σ 36 v_kindOfFault) 37 v_bytesIntoToken) 33 v_at) 34 v_kind) 35 v_open) 71 v_number) 65 v_numbers) 72 v_code) 66 v_length) 33 n_14) 34 n_15) 36 n_17) 37 n_18) 33 n_19) 34 n_20) 35 n_21) 71 f_22) 65 n_23) 72 f_24) 66 n_25) 72 f_27) 66 n_28)) := hD
              replace hw : 0 ≤ n_28.toInt ∧ n_28.toInt ≤ 700 := hw
              obtain ⟨i_29, ei_29⟩ : ∃ z9 : Int32, z9 = i + 1 := ⟨_, rfl⟩
              have vi_29 : i_29.toInt = i.toInt + 1 := by have h9 := x_add ei_29 (by omega) (by omega); omega
              refine lv_iinc (v := i_29) (lv' := [(1, .int i_29), (0, .ref (ad 30))]) hx hb dX5_test_51 hl (k := 0) rfl (by rw [ei_29]; rfl) (by decide) rfl (fun ls hl => ?_)
              refine lv_goto (tgt := 11) hx hb dX5_test_54 (by decide) ?_
              have hP : va_P D vwCl (prw y ad (sI (tI (sI (tI (sI (sI (sI (sI (sI σ 36 n_17) 37 n_18) 33 n_19) 34 n_20) 35 n_21) 71 f_22) 65 n_23) 72 f_27) 66 n_28)) H := hP
              have hD : va_D A (prw y ad (sI (tI (sI (tI (sI (sI (sI (sI (sI σ 36 n_17) 37 n_18) 33 n_19) 34 n_20) 35 n_21) 71 f_22) 65 n_23) 72 f_27) 66 n_28)) := hD
              exact ih_loop i_29 n_17 n_18 n_19 n_20 n_21 f_22 n_23 f_27 n_28 H locs ls (by omega) (by omega) (by omega) (by omega) (by omega) (by omega) (by omega) (by omega) hP hD hS (lv_sub hl [0, 1] rfl)
            · have kc_26 : r_16.toInt = 0 := by have h9 := c_26; simp only [ge_iff_le, gt_iff_lt, x_lt, x_le, x_eq, ne_eq, Int32.not_lt, Int32.not_le] at h9; simp only [Int32.reduceToInt] at h9; omega
              refine lv_iconst (v := 0) hx hb dX5_test_39 (by decide) ?_
              have hP : va_P D vwCl (prw y ad (sI (tI (sI (tI (sI (sI (sI (sI (sI σ 36 n_17) 37 n_18) 33 n_19) 34 n_20) 35 n_21) 71 f_22) 65 n_23) 72 f_24) 66 n_25)) H := hP
              have hD : va_D A (prw y ad (sI (tI (sI (tI (sI (sI (sI (sI (sI σ 36 n_17) 37 n_18) 33 n_19) 34 n_20) 35 n_21) 71 f_22) 65 n_23) 72 f_24) 66 n_25)) := hD
              exact x_zretW (v := 0) (u := (n_17, n_18, n_19, n_20, n_21, f_22, n_23, f_24, n_25)) hx hb hr hQ rfl (by (try dsimp only); exact ⟨by omega, by omega, by omega, by omega, by omega, by omega, by first | decide | omega, by first | omega | exact fun h9 => absurd h9 (by decide)⟩) hP hD hK hS dX5_test_40 hlocks
    exact loop 701 0 n_2 n_3 n_4 n_5 n_6 f_7 n_8 f_9 n_10 H locs ls (by decide) (by decide) (by omega) (by omega) (by omega) (by omega) (by omega) (by omega) hP hD hS (lv_sub hl [0, 1] rfl)
  · have kc_11 : r_1.toInt = 0 := by have h9 := c_11; simp only [ge_iff_le, gt_iff_lt, x_lt, x_le, x_eq, ne_eq, Int32.not_lt, Int32.not_le] at h9; simp only [Int32.reduceToInt] at h9; omega
    refine lv_iconst (v := 0) hx hb dX5_test_7 (by decide) ?_
    exact x_zretW (v := 0) (u := (n_2, n_3, n_4, n_5, n_6, f_7, n_8, f_9, n_10)) hx hb hr hQ rfl (by (try dsimp only); exact ⟨by omega, by omega, by omega, by omega, by omega, by omega, by first | decide | omega, by first | omega | exact fun h9 => absurd h9 (by decide)⟩) hP hD hK hS dX5_test_8 hlocks

theorem C_test_all : ∀ d, C_test d ∧ C_fact d := by
  intro d
  induction d with
  | zero => exact ⟨fun l D y sz ad σ hdp hopen0 hopen1 htcount0 htcount1 hlength0 hlength1 hnumbers0 hnumbers1 hnames0 hnames1 => z_testR l D y sz ad σ 0 (fun e h => absurd h (by omega)) (fun e h => absurd h (by omega)) hdp hopen0 hopen1 htcount0 htcount1 hlength0 hlength1 hnumbers0 hnumbers1 hnames0 hnames1, fun l D y sz ad σ hdp hopen0 hopen1 htcount0 htcount1 hlength0 hlength1 hnumbers0 hnumbers1 hnames0 hnames1 => z_factR l D y sz ad σ 0 (fun e h => absurd h (by omega)) (fun e h => absurd h (by omega)) hdp hopen0 hopen1 htcount0 htcount1 hlength0 hlength1 hnumbers0 hnumbers1 hnames0 hnames1⟩
  | succ d ih => exact ⟨fun l D y sz ad σ hdp hopen0 hopen1 htcount0 htcount1 hlength0 hlength1 hnumbers0 hnumbers1 hnames0 hnames1 => z_testR l D y sz ad σ (d + 1) (fun e h => by cases h; exact ih.1) (fun e h => by cases h; exact ih.2) hdp hopen0 hopen1 htcount0 htcount1 hlength0 hlength1 hnumbers0 hnumbers1 hnames0 hnames1, fun l D y sz ad σ hdp hopen0 hopen1 htcount0 htcount1 hlength0 hlength1 hnumbers0 hnumbers1 hnames0 hnames1 => z_factR l D y sz ad σ (d + 1) (fun e h => by cases h; exact ih.1) (fun e h => by cases h; exact ih.2) hdp hopen0 hopen1 htcount0 htcount1 hlength0 hlength1 hnumbers0 hnumbers1 hnames0 hnames1⟩

abbrev v_z_test : List Cond := v_z_testR
theorem z_test (l : Launch) (D : va_G) (y : Nat → ClassId) (sz : Nat) (ad : Nat → Nat) (σ : OS) (hopen0 : 0 ≤ (σ.1 35).toInt) (hopen1 : (σ.1 35).toInt ≤ 8) (htcount0 : 0 ≤ (σ.1 45).toInt) (htcount1 : (σ.1 45).toInt ≤ 700) (hlength0 : 0 ≤ (σ.1 66).toInt) (hlength1 : (σ.1 66).toInt ≤ 700) (hnumbers0 : 0 ≤ (σ.1 65).toInt) (hnumbers1 : (σ.1 65).toInt ≤ 350) (hnames0 : 0 ≤ (σ.1 68).toInt) (hnames1 : (σ.1 68).toInt ≤ 24) : Met l yX5_test v_z_test ({ frames := 94, cells := 0, slots := 0, locals := 2720 } : Room) (va_Pc [.ref (ad 30)] (xPre D (xT y) (prw y ad σ) sz)) (va_Qi (fun (r : Int32) (u : Int32 × Int32 × Int32 × Int32 × Int32 × (Nat → Int32) × Int32 × (Nat → Int32) × Int32) => 0 ≤ u.2.2.2.2.1.toInt ∧ u.2.2.2.2.1.toInt ≤ 8 ∧ 0 ≤ u.2.2.2.2.2.2.2.2.toInt ∧ u.2.2.2.2.2.2.2.2.toInt ≤ 700 ∧ 0 ≤ u.2.2.2.2.2.2.1.toInt ∧ u.2.2.2.2.2.2.1.toInt ≤ 350 ∧ (r.toInt = 0 ∨ r.toInt = 1) ∧ (r.toInt = 1 → u.2.2.2.2.1.toInt = (σ.1 35).toInt)) (fun (u : Int32 × Int32 × Int32 × Int32 × Int32 × (Nat → Int32) × Int32 × (Nat → Int32) × Int32) => xB D (xT y) (va_A (prw y ad σ) sz) (prw y ad (sI (tI (sI (tI (sI (sI (sI (sI (sI σ 36 u.1) 37 u.2.1) 33 u.2.2.1) 34 u.2.2.2.1) 35 u.2.2.2.2.1) 71 u.2.2.2.2.2.1) 65 u.2.2.2.2.2.2.1) 72 u.2.2.2.2.2.2.2.1) 66 u.2.2.2.2.2.2.2.2))) (va_A (prw y ad σ) sz)) 0 0 (va_A (prw y ad σ) sz) := by
  exact (C_test_all 8).1 l D y sz ad σ (by omega) hopen0 hopen1 htcount0 htcount1 hlength0 hlength1 hnumbers0 hnumbers1 hnames0 hnames1
