theorem lt_1 {w : Cond} (h : w ∈ tables_1_1) : w ∈ lw_tbl := List.mem_append_right _ (show w ∈ tables_1 from (List.mem_append_left _ h))
theorem lp_1 {q : MethodName × Nat} (h : q ∈ lw_privs_1) : Cond.selects q.1.cls q.1 q.1 ∈ lw_tbl := List.mem_append_left _ (List.mem_map.mpr ⟨q, (show q ∈ lw_privs from (List.mem_append_left _ h)), rfl⟩)
theorem lt_2 {w : Cond} (h : w ∈ tables_1_2) : w ∈ lw_tbl := List.mem_append_right _ (show w ∈ tables_1 from (List.mem_append_right _ (List.mem_append_left _ h)))
theorem lp_2 {q : MethodName × Nat} (h : q ∈ lw_privs_2) : Cond.selects q.1.cls q.1 q.1 ∈ lw_tbl := List.mem_append_left _ (List.mem_map.mpr ⟨q, (show q ∈ lw_privs from (List.mem_append_right _ (List.mem_append_left _ h))), rfl⟩)
theorem lt_3 {w : Cond} (h : w ∈ tables_1_3) : w ∈ lw_tbl := List.mem_append_right _ (show w ∈ tables_1 from (List.mem_append_right _ (List.mem_append_right _ (List.mem_append_left _ h))))
theorem lp_3 {q : MethodName × Nat} (h : q ∈ lw_privs_3) : Cond.selects q.1.cls q.1 q.1 ∈ lw_tbl := List.mem_append_left _ (List.mem_map.mpr ⟨q, (show q ∈ lw_privs from (List.mem_append_right _ (List.mem_append_right _ (List.mem_append_left _ h)))), rfl⟩)
theorem lt_4 {w : Cond} (h : w ∈ tables_1_4) : w ∈ lw_tbl := List.mem_append_right _ (show w ∈ tables_1 from (List.mem_append_right _ (List.mem_append_right _ (List.mem_append_right _ (List.mem_append_left _ h)))))
theorem lp_4 {q : MethodName × Nat} (h : q ∈ lw_privs_4) : Cond.selects q.1.cls q.1 q.1 ∈ lw_tbl := List.mem_append_left _ (List.mem_map.mpr ⟨q, (show q ∈ lw_privs from (List.mem_append_right _ (List.mem_append_right _ (List.mem_append_right _ (List.mem_append_left _ h))))), rfl⟩)
theorem lt_5 {w : Cond} (h : w ∈ tables_1_5) : w ∈ lw_tbl := List.mem_append_right _ (show w ∈ tables_1 from (List.mem_append_right _ (List.mem_append_right _ (List.mem_append_right _ (List.mem_append_right _ (List.mem_append_left _ h))))))
theorem lp_5 {q : MethodName × Nat} (h : q ∈ lw_privs_5) : Cond.selects q.1.cls q.1 q.1 ∈ lw_tbl := List.mem_append_left _ (List.mem_map.mpr ⟨q, (show q ∈ lw_privs from (List.mem_append_right _ (List.mem_append_right _ (List.mem_append_right _ (List.mem_append_right _ (List.mem_append_left _ h)))))), rfl⟩)
theorem lt_6 {w : Cond} (h : w ∈ tables_1_6) : w ∈ lw_tbl := List.mem_append_right _ (show w ∈ tables_1 from (List.mem_append_right _ (List.mem_append_right _ (List.mem_append_right _ (List.mem_append_right _ (List.mem_append_right _ (List.mem_append_left _ h)))))))
theorem lp_6 {q : MethodName × Nat} (h : q ∈ lw_privs_6) : Cond.selects q.1.cls q.1 q.1 ∈ lw_tbl := List.mem_append_left _ (List.mem_map.mpr ⟨q, (show q ∈ lw_privs from (List.mem_append_right _ (List.mem_append_right _ (List.mem_append_right _ (List.mem_append_right _ (List.mem_append_right _ (List.mem_append_left _ h))))))), rfl⟩)
theorem lt_7 {w : Cond} (h : w ∈ tables_1_7) : w ∈ lw_tbl := List.mem_append_right _ (show w ∈ tables_1 from (List.mem_append_right _ (List.mem_append_right _ (List.mem_append_right _ (List.mem_append_right _ (List.mem_append_right _ (List.mem_append_right _ (List.mem_append_left _ h))))))))
theorem lp_7 {q : MethodName × Nat} (h : q ∈ lw_privs_7) : Cond.selects q.1.cls q.1 q.1 ∈ lw_tbl := List.mem_append_left _ (List.mem_map.mpr ⟨q, (show q ∈ lw_privs from (List.mem_append_right _ (List.mem_append_right _ (List.mem_append_right _ (List.mem_append_right _ (List.mem_append_right _ (List.mem_append_right _ (List.mem_append_left _ h)))))))), rfl⟩)
theorem lt_8 {w : Cond} (h : w ∈ tables_1_8) : w ∈ lw_tbl := List.mem_append_right _ (show w ∈ tables_1 from (List.mem_append_right _ (List.mem_append_right _ (List.mem_append_right _ (List.mem_append_right _ (List.mem_append_right _ (List.mem_append_right _ (List.mem_append_right _ h))))))))
theorem lp_8 {q : MethodName × Nat} (h : q ∈ lw_privs_8) : Cond.selects q.1.cls q.1 q.1 ∈ lw_tbl := List.mem_append_left _ (List.mem_map.mpr ⟨q, (show q ∈ lw_privs from (List.mem_append_right _ (List.mem_append_right _ (List.mem_append_right _ (List.mem_append_right _ (List.mem_append_right _ (List.mem_append_right _ (List.mem_append_right _ h)))))))), rfl⟩)
theorem lx_0 : (Cond.initialized RJ0) ∈ lw_tbl := lt_1 (List.mem_of_getElem? (i := 5) rfl)
theorem lx_1 : (Cond.initialized RJ3) ∈ lw_tbl := lt_1 (List.mem_of_getElem? (i := 7) rfl)
theorem lx_2 : (Cond.instantiable RX1 3) ∈ lw_tbl := lt_1 (List.mem_of_getElem? (i := 231) rfl)
theorem lx_3 : (Cond.instantiable RX2 7) ∈ lw_tbl := lt_1 (List.mem_of_getElem? (i := 154) rfl)
theorem lx_4 : (Cond.instantiable RX3 3) ∈ lw_tbl := lt_2 (List.mem_of_getElem? (i := 7) rfl)
theorem lx_5 : (Cond.instantiable RX4 6) ∈ lw_tbl := lt_1 (List.mem_of_getElem? (i := 183) rfl)
theorem lx_6 : (Cond.instantiable RX5 8) ∈ lw_tbl := lt_1 (List.mem_of_getElem? (i := 44) rfl)
theorem lx_7 : (Cond.instantiable RX6 13) ∈ lw_tbl := lt_2 (List.mem_of_getElem? (i := 87) rfl)
theorem lx_8 : (Cond.instantiable RX7 5) ∈ lw_tbl := lt_1 (List.mem_of_getElem? (i := 208) rfl)
theorem lx_9 : (Cond.instantiable RX8 13) ∈ lw_tbl := lt_2 (List.mem_of_getElem? (i := 25) rfl)
theorem lx_10 : (Cond.instantiable RX9 2) ∈ lw_tbl := lt_1 (List.mem_of_getElem? (i := 30) rfl)
theorem lx_11 : (Cond.instantiable RX10 6) ∈ lw_tbl := lt_1 (List.mem_of_getElem? (i := 50) rfl)
theorem lx_12 : (Cond.instantiable RX11 11) ∈ lw_tbl := lt_1 (List.mem_of_getElem? (i := 22) rfl)
theorem lx_13 : (Cond.instantiable RX12 85) ∈ lw_tbl := lt_5 (List.mem_of_getElem? (i := 148) rfl)
theorem lx_14 : (Cond.arrayClass .byte) ∈ lw_tbl := lt_1 (List.mem_of_getElem? (i := 42) rfl)
theorem lx_15 : (Cond.arrayClass .char) ∈ lw_tbl := lt_6 (List.mem_of_getElem? (i := 169) rfl)
theorem lx_16 : (Cond.arrayClass .int) ∈ lw_tbl := lt_1 (List.mem_of_getElem? (i := 127) rfl)
theorem lx_17 : (Cond.arrayClass .long) ∈ lw_tbl := lt_1 (List.mem_of_getElem? (i := 126) rfl)
theorem lx_18 : (Cond.arrayClass .boolean) ∈ lw_tbl := lt_1 (List.mem_of_getElem? (i := 229) rfl)
theorem lx_19 : (Cond.classLink RL 7 RX11) ∈ lw_tbl := lt_1 (List.mem_of_getElem? (i := 21) rfl)
theorem lx_20 : (Cond.initialized RX11) ∈ lw_tbl := lt_1 (List.mem_of_getElem? (i := 1) rfl)
theorem lx_21 : (Cond.methodLink RL 9 yX11_init) ∈ lw_tbl := lt_1 (List.mem_of_getElem? (i := 23) rfl)
theorem lx_22 : (Cond.instanceMethod yX11_init) ∈ lw_tbl := lt_1 (List.mem_of_getElem? (i := 24) rfl)
theorem lx_23 : (Cond.classLink RL 10 RX12) ∈ lw_tbl := lt_5 (List.mem_of_getElem? (i := 147) rfl)
theorem lx_24 : (Cond.initialized RX12) ∈ lw_tbl := lt_1 (List.mem_of_getElem? (i := 16) rfl)
theorem lx_25 : (Cond.methodLink RL 12 yX12_init) ∈ lw_tbl := lt_5 (List.mem_of_getElem? (i := 149) rfl)
theorem lx_26 : (Cond.instanceMethod yX12_init) ∈ lw_tbl := lt_5 (List.mem_of_getElem? (i := 150) rfl)
theorem lx_27 : (Cond.code yX9_init cX9_init 1 none) ∈ lw_tbl := lt_1 (List.mem_of_getElem? (i := 33) rfl)
theorem lx_28 : (Cond.code objectInit ⟨#[0xb1]⟩ 1 none) ∈ lw_tbl := lt_1 (List.mem_of_getElem? (i := 28) rfl)
theorem lx_29 : (Cond.instanceMethod objectInit) ∈ lw_tbl := lt_1 (List.mem_of_getElem? (i := 27) rfl)
theorem lx_30 : (Cond.methodLink RX9 3 objectInit) ∈ lw_tbl := lt_1 (List.mem_of_getElem? (i := 34) rfl)
theorem lx_31 : (Cond.fieldLink RX9 11 "SlopeRunner$Text" "bytes" "[B") ∈ lw_tbl := lt_1 (List.mem_of_getElem? (i := 35) rfl)
theorem lx_32 : (Cond.code yJ0_coder_7d493 cJ0_coder_7d493 1 (some .byte)) ∈ lw_tbl := lt_1 (List.mem_of_getElem? (i := 63) rfl)
theorem lx_33 : (Cond.fieldLink RJ0 15 "java/lang/String" "coder" "B") ∈ lw_tbl := lt_8 (List.mem_of_getElem? (i := 51) rfl)
theorem lx_34 : (Cond.fieldLink RJ0 38 "java/lang/String" "COMPACT_STRINGS" "Z") ∈ lw_tbl := lt_1 (List.mem_of_getElem? (i := 64) rfl)
theorem lx_35 : (Cond.code yJ0_length_8abf5 cJ0_length_8abf5 1 (some .int)) ∈ lw_tbl := lt_1 (List.mem_of_getElem? (i := 59) rfl)
theorem lx_36 : (Cond.fieldLink RJ0 9 "java/lang/String" "value" "[B") ∈ lw_tbl := lt_8 (List.mem_of_getElem? (i := 50) rfl)
theorem lx_37 : (Cond.selects RJ0 yJ0_coder_7d493 yJ0_coder_7d493) ∈ lw_tbl := lt_1 (List.mem_of_getElem? (i := 62) rfl)
theorem lx_38 : (Cond.instanceMethod yJ0_coder_7d493) ∈ lw_tbl := lt_1 (List.mem_of_getElem? (i := 61) rfl)
theorem lx_39 : (Cond.methodLink RJ0 335 yJ0_coder_7d493) ∈ lw_tbl := lt_1 (List.mem_of_getElem? (i := 60) rfl)
theorem lx_40 : (Cond.code yJ0_isLatin1_aae02 cJ0_isLatin1_aae02 1 (some .boolean)) ∈ lw_tbl := lt_1 (List.mem_of_getElem? (i := 73) rfl)
theorem lx_41 : (Cond.code yJ3_checkIndex_8e157 cJ3_checkIndex_8e157 3 (some .int)) ∈ lw_tbl := lt_1 (List.mem_of_getElem? (i := 84) rfl)
theorem lx_42 : (Cond.code yJ0_checkIndex_df160 cJ0_checkIndex_df160 2 none) ∈ lw_tbl := lt_1 (List.mem_of_getElem? (i := 79) rfl)
theorem lx_43 : (Cond.fieldLink RJ0 1053 "jdk/internal/util/Preconditions" "SIOOBE_FORMATTER" "Ljava/util/function/BiFunction;") ∈ lw_tbl := lt_1 (List.mem_of_getElem? (i := 80) rfl)
theorem lx_44 : (Cond.static yJ3_checkIndex_8e157) ∈ lw_tbl := lt_1 (List.mem_of_getElem? (i := 83) rfl)
theorem lx_45 : (Cond.methodLink RJ0 1059 yJ3_checkIndex_8e157) ∈ lw_tbl := lt_1 (List.mem_of_getElem? (i := 82) rfl)
theorem lx_46 : (Cond.code yJ1_charAt_3b067 cJ1_charAt_3b067 2 (some .char)) ∈ lw_tbl := lt_1 (List.mem_of_getElem? (i := 76) rfl)
theorem lx_47 : (Cond.static yJ0_checkIndex_df160) ∈ lw_tbl := lt_1 (List.mem_of_getElem? (i := 78) rfl)
theorem lx_48 : (Cond.methodLink RJ1 9 yJ0_checkIndex_df160) ∈ lw_tbl := lt_1 (List.mem_of_getElem? (i := 77) rfl)
theorem lx_49 : (Cond.code yJ0_charAt_5068e cJ0_charAt_5068e 2 (some .char)) ∈ lw_tbl := lt_1 (List.mem_of_getElem? (i := 69) rfl)
theorem lx_50 : (Cond.selects RJ0 yJ0_isLatin1_aae02 yJ0_isLatin1_aae02) ∈ lw_tbl := lt_1 (List.mem_of_getElem? (i := 72) rfl)
theorem lx_51 : (Cond.instanceMethod yJ0_isLatin1_aae02) ∈ lw_tbl := lt_1 (List.mem_of_getElem? (i := 71) rfl)
theorem lx_52 : (Cond.methodLink RJ0 492 yJ0_isLatin1_aae02) ∈ lw_tbl := lt_1 (List.mem_of_getElem? (i := 70) rfl)
theorem lx_53 : (Cond.initialized RJ1) ∈ lw_tbl := lt_1 (List.mem_of_getElem? (i := 6) rfl)
theorem lx_54 : (Cond.static yJ1_charAt_3b067) ∈ lw_tbl := lt_1 (List.mem_of_getElem? (i := 75) rfl)
theorem lx_55 : (Cond.methodLink RJ0 495 yJ1_charAt_3b067) ∈ lw_tbl := lt_1 (List.mem_of_getElem? (i := 74) rfl)
theorem lx_56 : (Cond.code yX10_joined cX10_joined 3 (some .long)) ∈ lw_tbl := lt_1 (List.mem_of_getElem? (i := 106) rfl)
theorem lx_57 : (Cond.code yX10_init cX10_init 3 none) ∈ lw_tbl := lt_1 (List.mem_of_getElem? (i := 53) rfl)
theorem lx_58 : (Cond.methodLink RX10 1 objectInit) ∈ lw_tbl := lt_1 (List.mem_of_getElem? (i := 54) rfl)
theorem lx_59 : (Cond.fieldLink RX10 22 "SlopeRunner$Tokens" "worth" "[J") ∈ lw_tbl := lt_1 (List.mem_of_getElem? (i := 110) rfl)
theorem lx_60 : (Cond.fieldLink RX10 19 "SlopeRunner$Tokens" "start" "[I") ∈ lw_tbl := lt_1 (List.mem_of_getElem? (i := 109) rfl)
theorem lx_61 : (Cond.fieldLink RX10 15 "SlopeRunner$Tokens" "kind" "[I") ∈ lw_tbl := lt_1 (List.mem_of_getElem? (i := 108) rfl)
theorem lx_62 : (Cond.fieldLink RX10 9 "SlopeRunner$Tokens" "own" "[J") ∈ lw_tbl := lt_1 (List.mem_of_getElem? (i := 107) rfl)
theorem lx_63 : (Cond.selects RJ0 yJ0_length_8abf5 yJ0_length_8abf5) ∈ lw_tbl := lt_1 (List.mem_of_getElem? (i := 58) rfl)
theorem lx_64 : (Cond.instanceMethod yJ0_length_8abf5) ∈ lw_tbl := lt_1 (List.mem_of_getElem? (i := 57) rfl)
theorem lx_65 : (Cond.methodLink RX10 27 yJ0_length_8abf5) ∈ lw_tbl := lt_1 (List.mem_of_getElem? (i := 56) rfl)
theorem lx_66 : (Cond.selects RJ0 yJ0_charAt_5068e yJ0_charAt_5068e) ∈ lw_tbl := lt_1 (List.mem_of_getElem? (i := 68) rfl)
theorem lx_67 : (Cond.instanceMethod yJ0_charAt_5068e) ∈ lw_tbl := lt_1 (List.mem_of_getElem? (i := 67) rfl)
theorem lx_68 : (Cond.methodLink RX10 33 yJ0_charAt_5068e) ∈ lw_tbl := lt_1 (List.mem_of_getElem? (i := 66) rfl)
theorem lx_69 : (Cond.initialized RX10) ∈ lw_tbl := lt_1 (List.mem_of_getElem? (i := 4) rfl)
theorem lx_70 : (Cond.static yX10_joined) ∈ lw_tbl := lt_1 (List.mem_of_getElem? (i := 105) rfl)
theorem lx_71 : (Cond.methodLink RX10 37 yX10_joined) ∈ lw_tbl := lt_1 (List.mem_of_getElem? (i := 104) rfl)
theorem lx_72 : (Cond.code yX5_init cX5_init 1 none) ∈ lw_tbl := lt_1 (List.mem_of_getElem? (i := 47) rfl)
theorem lx_73 : (Cond.instanceMethod yX10_init) ∈ lw_tbl := lt_1 (List.mem_of_getElem? (i := 52) rfl)
theorem lx_74 : (Cond.methodLink RX5 11 yX10_init) ∈ lw_tbl := lt_1 (List.mem_of_getElem? (i := 51) rfl)
theorem lx_75 : (Cond.classLink RX5 9 RX10) ∈ lw_tbl := lt_1 (List.mem_of_getElem? (i := 49) rfl)
theorem lx_76 : (Cond.methodLink RX5 3 objectInit) ∈ lw_tbl := lt_1 (List.mem_of_getElem? (i := 48) rfl)
theorem lx_77 : (Cond.fieldLink RX5 18 "SlopeRunner$Parser" "placeOfFault" "I") ∈ lw_tbl := lt_1 (List.mem_of_getElem? (i := 135) rfl)
theorem lx_78 : (Cond.fieldLink RX5 12 "SlopeRunner$Parser" "tokens" "LSlopeRunner$Tokens;") ∈ lw_tbl := lt_1 (List.mem_of_getElem? (i := 128) rfl)
theorem lx_79 : (Cond.code yX2_init cX2_init 1 none) ∈ lw_tbl := lt_1 (List.mem_of_getElem? (i := 157) rfl)
theorem lx_80 : (Cond.methodLink RX2 1 objectInit) ∈ lw_tbl := lt_1 (List.mem_of_getElem? (i := 158) rfl)
theorem lx_81 : (Cond.fieldLink RX2 22 "SlopeRunner$Inputs" "after" "[J") ∈ lw_tbl := lt_1 (List.mem_of_getElem? (i := 163) rfl)
theorem lx_82 : (Cond.fieldLink RX2 19 "SlopeRunner$Inputs" "before" "[J") ∈ lw_tbl := lt_1 (List.mem_of_getElem? (i := 162) rfl)
theorem lx_83 : (Cond.fieldLink RX2 15 "SlopeRunner$Inputs" "changed" "[I") ∈ lw_tbl := lt_1 (List.mem_of_getElem? (i := 161) rfl)
theorem lx_84 : (Cond.fieldLink RX2 9 "SlopeRunner$Inputs" "value" "[J") ∈ lw_tbl := lt_1 (List.mem_of_getElem? (i := 159) rfl)
theorem lx_85 : (Cond.code yX4_init cX4_init 1 none) ∈ lw_tbl := lt_1 (List.mem_of_getElem? (i := 186) rfl)
theorem lx_86 : (Cond.methodLink RX4 5 objectInit) ∈ lw_tbl := lt_1 (List.mem_of_getElem? (i := 187) rfl)
theorem lx_87 : (Cond.fieldLink RX4 17 "SlopeRunner$Machine" "held" "[I") ∈ lw_tbl := lt_1 (List.mem_of_getElem? (i := 189) rfl)
theorem lx_88 : (Cond.fieldLink RX4 13 "SlopeRunner$Machine" "stack" "[I") ∈ lw_tbl := lt_1 (List.mem_of_getElem? (i := 188) rfl)
theorem lx_89 : (Cond.code yX7_init cX7_init 1 none) ∈ lw_tbl := lt_1 (List.mem_of_getElem? (i := 211) rfl)
theorem lx_90 : (Cond.methodLink RX7 1 objectInit) ∈ lw_tbl := lt_1 (List.mem_of_getElem? (i := 212) rfl)
theorem lx_91 : (Cond.fieldLink RX7 25 "SlopeRunner$Slopes" "hangs" "[Z") ∈ lw_tbl := lt_1 (List.mem_of_getElem? (i := 217) rfl)
theorem lx_92 : (Cond.fieldLink RX7 21 "SlopeRunner$Slopes" "count" "[I") ∈ lw_tbl := lt_1 (List.mem_of_getElem? (i := 216) rfl)
theorem lx_93 : (Cond.fieldLink RX7 18 "SlopeRunner$Slopes" "fromBoth" "[J") ∈ lw_tbl := lt_1 (List.mem_of_getElem? (i := 215) rfl)
theorem lx_94 : (Cond.fieldLink RX7 15 "SlopeRunner$Slopes" "fromOther" "[J") ∈ lw_tbl := lt_1 (List.mem_of_getElem? (i := 214) rfl)
theorem lx_95 : (Cond.fieldLink RX7 9 "SlopeRunner$Slopes" "fromOne" "[J") ∈ lw_tbl := lt_1 (List.mem_of_getElem? (i := 213) rfl)
theorem lx_96 : (Cond.code yX1_init cX1_init 1 none) ∈ lw_tbl := lt_1 (List.mem_of_getElem? (i := 234) rfl)
theorem lx_97 : (Cond.methodLink RX1 3 objectInit) ∈ lw_tbl := lt_1 (List.mem_of_getElem? (i := 235) rfl)
theorem lx_98 : (Cond.fieldLink RX1 17 "SlopeRunner$Grouping" "apart" "[I") ∈ lw_tbl := lt_1 (List.mem_of_getElem? (i := 237) rfl)
theorem lx_99 : (Cond.fieldLink RX1 11 "SlopeRunner$Grouping" "group" "[I") ∈ lw_tbl := lt_1 (List.mem_of_getElem? (i := 236) rfl)
theorem lx_100 : (Cond.code yX3_init cX3_init 1 none) ∈ lw_tbl := lt_2 (List.mem_of_getElem? (i := 10) rfl)
theorem lx_101 : (Cond.classLink RX3 11 "[[I") ∈ lw_tbl := lt_2 (List.mem_of_getElem? (i := 12) rfl)
theorem lx_102 : (Cond.methodLink RX3 3 objectInit) ∈ lw_tbl := lt_2 (List.mem_of_getElem? (i := 11) rfl)
theorem lx_103 : (Cond.fieldLink RX3 16 "SlopeRunner$Keepers" "firstAt" "[[I") ∈ lw_tbl := lt_2 (List.mem_of_getElem? (i := 15) rfl)
theorem lx_104 : (Cond.fieldLink RX3 13 "SlopeRunner$Keepers" "least" "[[I") ∈ lw_tbl := lt_2 (List.mem_of_getElem? (i := 14) rfl)
theorem lx_105 : (Cond.code yX8_init cX8_init 1 none) ∈ lw_tbl := lt_2 (List.mem_of_getElem? (i := 28) rfl)
theorem lx_106 : (Cond.methodLink RX8 5 objectInit) ∈ lw_tbl := lt_2 (List.mem_of_getElem? (i := 29) rfl)
theorem lx_107 : (Cond.fieldLink RX8 34 "SlopeRunner$Tape" "nearest" "J") ∈ lw_tbl := lt_2 (List.mem_of_getElem? (i := 57) rfl)
theorem lx_108 : (Cond.fieldLink RX8 28 "SlopeRunner$Tape" "state" "I") ∈ lw_tbl := lt_2 (List.mem_of_getElem? (i := 40) rfl)
theorem lx_109 : (Cond.fieldLink RX8 25 "SlopeRunner$Tape" "given" "[I") ∈ lw_tbl := lt_2 (List.mem_of_getElem? (i := 39) rfl)
theorem lx_110 : (Cond.fieldLink RX8 22 "SlopeRunner$Tape" "right" "[I") ∈ lw_tbl := lt_2 (List.mem_of_getElem? (i := 37) rfl)
theorem lx_111 : (Cond.fieldLink RX8 19 "SlopeRunner$Tape" "left" "[I") ∈ lw_tbl := lt_2 (List.mem_of_getElem? (i := 35) rfl)
theorem lx_112 : (Cond.fieldLink RX8 15 "SlopeRunner$Tape" "kind" "[I") ∈ lw_tbl := lt_2 (List.mem_of_getElem? (i := 33) rfl)
theorem lx_113 : (Cond.fieldLink RX8 11 "SlopeRunner$Tape" "value" "[J") ∈ lw_tbl := lt_2 (List.mem_of_getElem? (i := 30) rfl)
theorem lx_114 : (Cond.code yX6_init cX6_init 1 none) ∈ lw_tbl := lt_2 (List.mem_of_getElem? (i := 90) rfl)
theorem lx_115 : (Cond.methodLink RX6 7 objectInit) ∈ lw_tbl := lt_2 (List.mem_of_getElem? (i := 91) rfl)
theorem lx_116 : (Cond.fieldLink RX6 30 "SlopeRunner$Program" "aside" "[I") ∈ lw_tbl := lt_2 (List.mem_of_getElem? (i := 119) rfl)
theorem lx_117 : (Cond.fieldLink RX6 27 "SlopeRunner$Program" "code" "[I") ∈ lw_tbl := lt_2 (List.mem_of_getElem? (i := 118) rfl)
theorem lx_118 : (Cond.fieldLink RX6 24 "SlopeRunner$Program" "number" "[I") ∈ lw_tbl := lt_2 (List.mem_of_getElem? (i := 117) rfl)
theorem lx_119 : (Cond.fieldLink RX6 21 "SlopeRunner$Program" "slot" "[I") ∈ lw_tbl := lt_2 (List.mem_of_getElem? (i := 116) rfl)
theorem lx_120 : (Cond.fieldLink RX6 17 "SlopeRunner$Program" "name" "[J") ∈ lw_tbl := lt_2 (List.mem_of_getElem? (i := 115) rfl)
theorem lx_121 : (Cond.fieldLink RX6 13 "SlopeRunner$Program" "places" "[I") ∈ lw_tbl := lt_2 (List.mem_of_getElem? (i := 112) rfl)
theorem lx_122 : (Cond.code yX11_init cX11_init 1 none) ∈ lw_tbl := lt_1 (List.mem_of_getElem? (i := 25) rfl)
theorem lx_123 : (Cond.instanceMethod yX6_init) ∈ lw_tbl := lt_2 (List.mem_of_getElem? (i := 89) rfl)
theorem lx_124 : (Cond.initialized RX6) ∈ lw_tbl := lt_1 (List.mem_of_getElem? (i := 15) rfl)
theorem lx_125 : (Cond.classLink RX11 68 RX6) ∈ lw_tbl := lt_2 (List.mem_of_getElem? (i := 86) rfl)
theorem lx_126 : (Cond.instanceMethod yX8_init) ∈ lw_tbl := lt_2 (List.mem_of_getElem? (i := 27) rfl)
theorem lx_127 : (Cond.initialized RX8) ∈ lw_tbl := lt_1 (List.mem_of_getElem? (i := 14) rfl)
theorem lx_128 : (Cond.classLink RX11 58 RX8) ∈ lw_tbl := lt_2 (List.mem_of_getElem? (i := 24) rfl)
theorem lx_129 : (Cond.instanceMethod yX3_init) ∈ lw_tbl := lt_2 (List.mem_of_getElem? (i := 9) rfl)
theorem lx_130 : (Cond.initialized RX3) ∈ lw_tbl := lt_1 (List.mem_of_getElem? (i := 13) rfl)
theorem lx_131 : (Cond.classLink RX11 51 RX3) ∈ lw_tbl := lt_2 (List.mem_of_getElem? (i := 6) rfl)
theorem lx_132 : (Cond.instanceMethod yX1_init) ∈ lw_tbl := lt_1 (List.mem_of_getElem? (i := 233) rfl)
theorem lx_133 : (Cond.initialized RX1) ∈ lw_tbl := lt_1 (List.mem_of_getElem? (i := 12) rfl)
theorem lx_134 : (Cond.classLink RX11 44 RX1) ∈ lw_tbl := lt_1 (List.mem_of_getElem? (i := 230) rfl)
theorem lx_135 : (Cond.instanceMethod yX7_init) ∈ lw_tbl := lt_1 (List.mem_of_getElem? (i := 210) rfl)
theorem lx_136 : (Cond.initialized RX7) ∈ lw_tbl := lt_1 (List.mem_of_getElem? (i := 11) rfl)
theorem lx_137 : (Cond.classLink RX11 37 RX7) ∈ lw_tbl := lt_1 (List.mem_of_getElem? (i := 207) rfl)
theorem lx_138 : (Cond.instanceMethod yX4_init) ∈ lw_tbl := lt_1 (List.mem_of_getElem? (i := 185) rfl)
theorem lx_139 : (Cond.initialized RX4) ∈ lw_tbl := lt_1 (List.mem_of_getElem? (i := 10) rfl)
theorem lx_140 : (Cond.classLink RX11 30 RX4) ∈ lw_tbl := lt_1 (List.mem_of_getElem? (i := 182) rfl)
theorem lx_141 : (Cond.instanceMethod yX2_init) ∈ lw_tbl := lt_1 (List.mem_of_getElem? (i := 156) rfl)
theorem lx_142 : (Cond.initialized RX2) ∈ lw_tbl := lt_1 (List.mem_of_getElem? (i := 9) rfl)
theorem lx_143 : (Cond.classLink RX11 23 RX2) ∈ lw_tbl := lt_1 (List.mem_of_getElem? (i := 153) rfl)
theorem lx_144 : (Cond.instanceMethod yX5_init) ∈ lw_tbl := lt_1 (List.mem_of_getElem? (i := 46) rfl)
theorem lx_145 : (Cond.initialized RX5) ∈ lw_tbl := lt_1 (List.mem_of_getElem? (i := 3) rfl)
theorem lx_146 : (Cond.classLink RX11 16 RX5) ∈ lw_tbl := lt_1 (List.mem_of_getElem? (i := 43) rfl)
theorem lx_147 : (Cond.instanceMethod yX9_init) ∈ lw_tbl := lt_1 (List.mem_of_getElem? (i := 32) rfl)
theorem lx_148 : (Cond.initialized RX9) ∈ lw_tbl := lt_1 (List.mem_of_getElem? (i := 2) rfl)
theorem lx_149 : (Cond.classLink RX11 7 RX9) ∈ lw_tbl := lt_1 (List.mem_of_getElem? (i := 29) rfl)
theorem lx_150 : (Cond.methodLink RX11 1 objectInit) ∈ lw_tbl := lt_1 (List.mem_of_getElem? (i := 26) rfl)
theorem lx_151 : (Cond.fieldLink RX11 75 "SlopeRunner" "spare" "LSlopeRunner$Program;") ∈ lw_tbl := lt_2 (List.mem_of_getElem? (i := 157) rfl)
theorem lx_152 : (Cond.fieldLink RX11 71 "SlopeRunner" "current" "LSlopeRunner$Program;") ∈ lw_tbl := lt_2 (List.mem_of_getElem? (i := 156) rfl)
theorem lx_153 : (Cond.fieldLink RX11 65 "SlopeRunner" "trial" "LSlopeRunner$Tape;") ∈ lw_tbl := lt_2 (List.mem_of_getElem? (i := 155) rfl)
theorem lx_154 : (Cond.fieldLink RX11 61 "SlopeRunner" "latest" "LSlopeRunner$Tape;") ∈ lw_tbl := lt_2 (List.mem_of_getElem? (i := 154) rfl)
theorem lx_155 : (Cond.fieldLink RX11 54 "SlopeRunner" "keepers" "LSlopeRunner$Keepers;") ∈ lw_tbl := lt_2 (List.mem_of_getElem? (i := 153) rfl)
theorem lx_156 : (Cond.fieldLink RX11 47 "SlopeRunner" "grouping" "LSlopeRunner$Grouping;") ∈ lw_tbl := lt_2 (List.mem_of_getElem? (i := 152) rfl)
theorem lx_157 : (Cond.fieldLink RX11 40 "SlopeRunner" "slopes" "LSlopeRunner$Slopes;") ∈ lw_tbl := lt_2 (List.mem_of_getElem? (i := 151) rfl)
theorem lx_158 : (Cond.fieldLink RX11 33 "SlopeRunner" "machine" "LSlopeRunner$Machine;") ∈ lw_tbl := lt_2 (List.mem_of_getElem? (i := 150) rfl)
theorem lx_159 : (Cond.fieldLink RX11 26 "SlopeRunner" "inputs" "LSlopeRunner$Inputs;") ∈ lw_tbl := lt_2 (List.mem_of_getElem? (i := 149) rfl)
theorem lx_160 : (Cond.fieldLink RX11 19 "SlopeRunner" "parser" "LSlopeRunner$Parser;") ∈ lw_tbl := lt_2 (List.mem_of_getElem? (i := 148) rfl)
theorem lx_161 : (Cond.fieldLink RX11 10 "SlopeRunner" "text" "LSlopeRunner$Text;") ∈ lw_tbl := lt_2 (List.mem_of_getElem? (i := 147) rfl)
theorem lx_162 : (Cond.code yX12_init cX12_init 1 none) ∈ lw_tbl := lt_5 (List.mem_of_getElem? (i := 151) rfl)
theorem lx_163 : (Cond.methodLink RX12 1 objectInit) ∈ lw_tbl := lt_5 (List.mem_of_getElem? (i := 152) rfl)
theorem lx_164 : (Cond.fieldLink RX12 185 "SlopeRunnerModel" "firstKept" "[I") ∈ lw_tbl := lt_5 (List.mem_of_getElem? (i := 237) rfl)
theorem lx_165 : (Cond.fieldLink RX12 182 "SlopeRunnerModel" "again" "[I") ∈ lw_tbl := lt_5 (List.mem_of_getElem? (i := 236) rfl)
theorem lx_166 : (Cond.fieldLink RX12 179 "SlopeRunnerModel" "apart" "[I") ∈ lw_tbl := lt_5 (List.mem_of_getElem? (i := 234) rfl)
theorem lx_167 : (Cond.fieldLink RX12 176 "SlopeRunnerModel" "groupOf" "[I") ∈ lw_tbl := lt_5 (List.mem_of_getElem? (i := 233) rfl)
theorem lx_168 : (Cond.fieldLink RX12 173 "SlopeRunnerModel" "way" "[J") ∈ lw_tbl := lt_5 (List.mem_of_getElem? (i := 230) rfl)
theorem lx_169 : (Cond.fieldLink RX12 170 "SlopeRunnerModel" "slopeDown" "[J") ∈ lw_tbl := lt_5 (List.mem_of_getElem? (i := 229) rfl)
theorem lx_170 : (Cond.fieldLink RX12 167 "SlopeRunnerModel" "slopeUp" "[J") ∈ lw_tbl := lt_5 (List.mem_of_getElem? (i := 228) rfl)
theorem lx_171 : (Cond.fieldLink RX12 163 "SlopeRunnerModel" "hangs" "[Z") ∈ lw_tbl := lt_5 (List.mem_of_getElem? (i := 227) rfl)
theorem lx_172 : (Cond.fieldLink RX12 160 "SlopeRunnerModel" "pile" "[I") ∈ lw_tbl := lt_5 (List.mem_of_getElem? (i := 225) rfl)
theorem lx_173 : (Cond.fieldLink RX12 157 "SlopeRunnerModel" "held" "[I") ∈ lw_tbl := lt_5 (List.mem_of_getElem? (i := 224) rfl)
theorem lx_174 : (Cond.fieldLink RX12 154 "SlopeRunnerModel" "state" "[I") ∈ lw_tbl := lt_5 (List.mem_of_getElem? (i := 220) rfl)
theorem lx_175 : (Cond.fieldLink RX12 151 "SlopeRunnerModel" "edges" "[I") ∈ lw_tbl := lt_5 (List.mem_of_getElem? (i := 219) rfl)
theorem lx_176 : (Cond.fieldLink RX12 148 "SlopeRunnerModel" "resultAt" "[I") ∈ lw_tbl := lt_5 (List.mem_of_getElem? (i := 218) rfl)
theorem lx_177 : (Cond.fieldLink RX12 145 "SlopeRunnerModel" "results" "[I") ∈ lw_tbl := lt_5 (List.mem_of_getElem? (i := 217) rfl)
theorem lx_178 : (Cond.fieldLink RX12 142 "SlopeRunnerModel" "steps" "[I") ∈ lw_tbl := lt_5 (List.mem_of_getElem? (i := 216) rfl)
theorem lx_179 : (Cond.fieldLink RX12 139 "SlopeRunnerModel" "laid" "[I") ∈ lw_tbl := lt_5 (List.mem_of_getElem? (i := 215) rfl)
theorem lx_180 : (Cond.fieldLink RX12 136 "SlopeRunnerModel" "second" "[I") ∈ lw_tbl := lt_5 (List.mem_of_getElem? (i := 214) rfl)
theorem lx_181 : (Cond.fieldLink RX12 133 "SlopeRunnerModel" "first" "[I") ∈ lw_tbl := lt_5 (List.mem_of_getElem? (i := 213) rfl)
theorem lx_182 : (Cond.fieldLink RX12 130 "SlopeRunnerModel" "op" "[I") ∈ lw_tbl := lt_5 (List.mem_of_getElem? (i := 212) rfl)
theorem lx_183 : (Cond.fieldLink RX12 127 "SlopeRunnerModel" "valueBelow" "[J") ∈ lw_tbl := lt_5 (List.mem_of_getElem? (i := 211) rfl)
theorem lx_184 : (Cond.fieldLink RX12 124 "SlopeRunnerModel" "valueAbove" "[J") ∈ lw_tbl := lt_5 (List.mem_of_getElem? (i := 210) rfl)
theorem lx_185 : (Cond.fieldLink RX12 121 "SlopeRunnerModel" "runBelow" "[J") ∈ lw_tbl := lt_5 (List.mem_of_getElem? (i := 209) rfl)
theorem lx_186 : (Cond.fieldLink RX12 118 "SlopeRunnerModel" "runAbove" "[J") ∈ lw_tbl := lt_5 (List.mem_of_getElem? (i := 208) rfl)
theorem lx_187 : (Cond.fieldLink RX12 115 "SlopeRunnerModel" "isBelow" "[J") ∈ lw_tbl := lt_5 (List.mem_of_getElem? (i := 206) rfl)
theorem lx_188 : (Cond.fieldLink RX12 112 "SlopeRunnerModel" "isAbove" "[J") ∈ lw_tbl := lt_5 (List.mem_of_getElem? (i := 205) rfl)
theorem lx_189 : (Cond.fieldLink RX12 109 "SlopeRunnerModel" "wasBelow" "[J") ∈ lw_tbl := lt_5 (List.mem_of_getElem? (i := 204) rfl)
theorem lx_190 : (Cond.fieldLink RX12 106 "SlopeRunnerModel" "wasAbove" "[J") ∈ lw_tbl := lt_5 (List.mem_of_getElem? (i := 203) rfl)
theorem lx_191 : (Cond.fieldLink RX12 103 "SlopeRunnerModel" "doneInput" "[I") ∈ lw_tbl := lt_5 (List.mem_of_getElem? (i := 202) rfl)
theorem lx_192 : (Cond.fieldLink RX12 100 "SlopeRunnerModel" "putBelow" "[J") ∈ lw_tbl := lt_5 (List.mem_of_getElem? (i := 199) rfl)
theorem lx_193 : (Cond.fieldLink RX12 97 "SlopeRunnerModel" "putAbove" "[J") ∈ lw_tbl := lt_5 (List.mem_of_getElem? (i := 198) rfl)
theorem lx_194 : (Cond.fieldLink RX12 94 "SlopeRunnerModel" "moved" "[I") ∈ lw_tbl := lt_5 (List.mem_of_getElem? (i := 194) rfl)
theorem lx_195 : (Cond.fieldLink RX12 91 "SlopeRunnerModel" "blockJump" "[I") ∈ lw_tbl := lt_5 (List.mem_of_getElem? (i := 191) rfl)
theorem lx_196 : (Cond.fieldLink RX12 88 "SlopeRunnerModel" "blockFrom" "[I") ∈ lw_tbl := lt_5 (List.mem_of_getElem? (i := 190) rfl)
theorem lx_197 : (Cond.fieldLink RX12 85 "SlopeRunnerModel" "blockSort" "[I") ∈ lw_tbl := lt_5 (List.mem_of_getElem? (i := 189) rfl)
theorem lx_198 : (Cond.fieldLink RX12 82 "SlopeRunnerModel" "namedAs" "[I") ∈ lw_tbl := lt_5 (List.mem_of_getElem? (i := 188) rfl)
theorem lx_199 : (Cond.fieldLink RX12 78 "SlopeRunnerModel" "named" "[J") ∈ lw_tbl := lt_5 (List.mem_of_getElem? (i := 187) rfl)
theorem lx_200 : (Cond.fieldLink RX12 75 "SlopeRunnerModel" "wait" "[I") ∈ lw_tbl := lt_5 (List.mem_of_getElem? (i := 183) rfl)
theorem lx_201 : (Cond.fieldLink RX12 72 "SlopeRunnerModel" "codeMany" "[I") ∈ lw_tbl := lt_5 (List.mem_of_getElem? (i := 181) rfl)
theorem lx_202 : (Cond.fieldLink RX12 69 "SlopeRunnerModel" "codes" "[I") ∈ lw_tbl := lt_5 (List.mem_of_getElem? (i := 180) rfl)
theorem lx_203 : (Cond.fieldLink RX12 66 "SlopeRunnerModel" "numbers" "[I") ∈ lw_tbl := lt_5 (List.mem_of_getElem? (i := 179) rfl)
theorem lx_204 : (Cond.fieldLink RX12 63 "SlopeRunnerModel" "sizeOf" "[I") ∈ lw_tbl := lt_5 (List.mem_of_getElem? (i := 178) rfl)
theorem lx_205 : (Cond.fieldLink RX12 60 "SlopeRunnerModel" "has" "[I") ∈ lw_tbl := lt_5 (List.mem_of_getElem? (i := 177) rfl)
theorem lx_206 : (Cond.fieldLink RX12 57 "SlopeRunnerModel" "maxWord" "[C") ∈ lw_tbl := lt_5 (List.mem_of_getElem? (i := 175) rfl)
theorem lx_207 : (Cond.fieldLink RX12 54 "SlopeRunnerModel" "minWord" "[C") ∈ lw_tbl := lt_5 (List.mem_of_getElem? (i := 174) rfl)
theorem lx_208 : (Cond.fieldLink RX12 51 "SlopeRunnerModel" "absWord" "[C") ∈ lw_tbl := lt_5 (List.mem_of_getElem? (i := 173) rfl)
theorem lx_209 : (Cond.fieldLink RX12 48 "SlopeRunnerModel" "notWord" "[C") ∈ lw_tbl := lt_5 (List.mem_of_getElem? (i := 172) rfl)
theorem lx_210 : (Cond.fieldLink RX12 45 "SlopeRunnerModel" "orWord" "[C") ∈ lw_tbl := lt_5 (List.mem_of_getElem? (i := 171) rfl)
theorem lx_211 : (Cond.fieldLink RX12 42 "SlopeRunnerModel" "andWord" "[C") ∈ lw_tbl := lt_5 (List.mem_of_getElem? (i := 170) rfl)
theorem lx_212 : (Cond.fieldLink RX12 39 "SlopeRunnerModel" "whileWord" "[C") ∈ lw_tbl := lt_5 (List.mem_of_getElem? (i := 169) rfl)
theorem lx_213 : (Cond.fieldLink RX12 36 "SlopeRunnerModel" "elseWord" "[C") ∈ lw_tbl := lt_5 (List.mem_of_getElem? (i := 168) rfl)
theorem lx_214 : (Cond.fieldLink RX12 33 "SlopeRunnerModel" "ifWord" "[C") ∈ lw_tbl := lt_5 (List.mem_of_getElem? (i := 167) rfl)
theorem lx_215 : (Cond.fieldLink RX12 30 "SlopeRunnerModel" "giveWord" "[C") ∈ lw_tbl := lt_5 (List.mem_of_getElem? (i := 166) rfl)
theorem lx_216 : (Cond.fieldLink RX12 27 "SlopeRunnerModel" "setWord" "[C") ∈ lw_tbl := lt_5 (List.mem_of_getElem? (i := 165) rfl)
theorem lx_217 : (Cond.fieldLink RX12 24 "SlopeRunnerModel" "varWord" "[C") ∈ lw_tbl := lt_5 (List.mem_of_getElem? (i := 164) rfl)
theorem lx_218 : (Cond.fieldLink RX12 21 "SlopeRunnerModel" "rowWord" "[C") ∈ lw_tbl := lt_5 (List.mem_of_getElem? (i := 163) rfl)
theorem lx_219 : (Cond.fieldLink RX12 17 "SlopeRunnerModel" "inputWord" "[C") ∈ lw_tbl := lt_5 (List.mem_of_getElem? (i := 162) rfl)
theorem lx_220 : (Cond.fieldLink RX12 13 "SlopeRunnerModel" "faultPlace" "I") ∈ lw_tbl := lt_5 (List.mem_of_getElem? (i := 161) rfl)
theorem lx_221 : (Cond.fieldLink RX12 7 "SlopeRunnerModel" "tape" "[I") ∈ lw_tbl := lt_5 (List.mem_of_getElem? (i := 153) rfl)
theorem lx_222 : (Cond.code yX9_hasRoomFor cX9_hasRoomFor 2 (some .boolean)) ∈ lw_tbl := lt_2 (List.mem_of_getElem? (i := 188) rfl)
theorem lx_223 : (Cond.fieldLink RX9 15 "SlopeRunner$Text" "length" "I") ∈ lw_tbl := lt_1 (List.mem_of_getElem? (i := 36) rfl)
theorem lx_224 : (Cond.code yX9_addFour cX9_addFour 3 none) ∈ lw_tbl := lt_2 (List.mem_of_getElem? (i := 192) rfl)
theorem lx_225 : (Cond.code yX9_size cX9_size 1 (some .int)) ∈ lw_tbl := lt_2 (List.mem_of_getElem? (i := 196) rfl)
theorem lx_226 : (Cond.code yX11_feed cX11_feed 6 (some .int)) ∈ lw_tbl := lt_2 (List.mem_of_getElem? (i := 184) rfl)
theorem lx_227 : (Cond.selects RX9 yX9_hasRoomFor yX9_hasRoomFor) ∈ lw_tbl := lt_2 (List.mem_of_getElem? (i := 187) rfl)
theorem lx_228 : (Cond.instanceMethod yX9_hasRoomFor) ∈ lw_tbl := lt_2 (List.mem_of_getElem? (i := 186) rfl)
theorem lx_229 : (Cond.methodLink RX11 78 yX9_hasRoomFor) ∈ lw_tbl := lt_2 (List.mem_of_getElem? (i := 185) rfl)
theorem lx_230 : (Cond.selects RX9 yX9_addFour yX9_addFour) ∈ lw_tbl := lt_2 (List.mem_of_getElem? (i := 191) rfl)
theorem lx_231 : (Cond.instanceMethod yX9_addFour) ∈ lw_tbl := lt_2 (List.mem_of_getElem? (i := 190) rfl)
theorem lx_232 : (Cond.methodLink RX11 82 yX9_addFour) ∈ lw_tbl := lt_2 (List.mem_of_getElem? (i := 189) rfl)
theorem lx_233 : (Cond.selects RX9 yX9_size yX9_size) ∈ lw_tbl := lt_2 (List.mem_of_getElem? (i := 195) rfl)
theorem lx_234 : (Cond.instanceMethod yX9_size) ∈ lw_tbl := lt_2 (List.mem_of_getElem? (i := 194) rfl)
theorem lx_235 : (Cond.methodLink RX11 86 yX9_size) ∈ lw_tbl := lt_2 (List.mem_of_getElem? (i := 193) rfl)
theorem lx_236 : (Cond.code yX12_feed cX12_feed 8 (some .int)) ∈ lw_tbl := lt_6 (List.mem_of_getElem? (i := 173) rfl)
theorem lx_237 : (Cond.fieldLink RX12 188 "SlopeRunnerModel" "taped" "I") ∈ lw_tbl := lt_5 (List.mem_of_getElem? (i := 154) rfl)
theorem lx_238 : (Cond.code yX9_cutTo cX9_cutTo 2 (some .boolean)) ∈ lw_tbl := lt_2 (List.mem_of_getElem? (i := 204) rfl)
theorem lx_239 : (Cond.code yX11_end cX11_end 2 (some .boolean)) ∈ lw_tbl := lt_2 (List.mem_of_getElem? (i := 200) rfl)
theorem lx_240 : (Cond.selects RX9 yX9_cutTo yX9_cutTo) ∈ lw_tbl := lt_2 (List.mem_of_getElem? (i := 203) rfl)
theorem lx_241 : (Cond.instanceMethod yX9_cutTo) ∈ lw_tbl := lt_2 (List.mem_of_getElem? (i := 202) rfl)
theorem lx_242 : (Cond.methodLink RX11 90 yX9_cutTo) ∈ lw_tbl := lt_2 (List.mem_of_getElem? (i := 201) rfl)
theorem lx_243 : (Cond.code yX12_end cX12_end 2 (some .boolean)) ∈ lw_tbl := lt_6 (List.mem_of_getElem? (i := 177) rfl)
theorem lx_244 : (Cond.code yX10_cut cX10_cut 4 none) ∈ lw_tbl := lt_2 (List.mem_of_getElem? (i := 216) rfl)
theorem lx_245 : (Cond.fieldLink RX10 48 "SlopeRunner$Tokens" "length" "I") ∈ lw_tbl := lt_1 (List.mem_of_getElem? (i := 112) rfl)
theorem lx_246 : (Cond.fieldLink RX10 41 "SlopeRunner$Tokens" "count" "I") ∈ lw_tbl := lt_1 (List.mem_of_getElem? (i := 111) rfl)
theorem lx_247 : (Cond.methodLink RX10 45 yX9_size) ∈ lw_tbl := lt_2 (List.mem_of_getElem? (i := 217) rfl)
theorem lx_248 : (Cond.code yX6_clear cX6_clear 1 none) ∈ lw_tbl := lt_3 (List.mem_of_getElem? (i := 17) rfl)
theorem lx_249 : (Cond.fieldLink RX6 52 "SlopeRunner$Program" "length" "I") ∈ lw_tbl := lt_2 (List.mem_of_getElem? (i := 110) rfl)
theorem lx_250 : (Cond.fieldLink RX6 49 "SlopeRunner$Program" "names" "I") ∈ lw_tbl := lt_2 (List.mem_of_getElem? (i := 114) rfl)
theorem lx_251 : (Cond.fieldLink RX6 46 "SlopeRunner$Program" "numbers" "I") ∈ lw_tbl := lt_2 (List.mem_of_getElem? (i := 107) rfl)
theorem lx_252 : (Cond.fieldLink RX6 43 "SlopeRunner$Program" "statements" "I") ∈ lw_tbl := lt_2 (List.mem_of_getElem? (i := 104) rfl)
theorem lx_253 : (Cond.fieldLink RX6 40 "SlopeRunner$Program" "vars" "I") ∈ lw_tbl := lt_2 (List.mem_of_getElem? (i := 101) rfl)
theorem lx_254 : (Cond.fieldLink RX6 37 "SlopeRunner$Program" "rows" "I") ∈ lw_tbl := lt_2 (List.mem_of_getElem? (i := 97) rfl)
theorem lx_255 : (Cond.fieldLink RX6 33 "SlopeRunner$Program" "inputs" "I") ∈ lw_tbl := lt_2 (List.mem_of_getElem? (i := 92) rfl)
theorem lx_256 : (Cond.code yX10_kindAt cX10_kindAt 2 (some .int)) ∈ lw_tbl := lt_3 (List.mem_of_getElem? (i := 21) rfl)
theorem lx_257 : (Cond.code yX5_statements cX5_statements 3 (some .boolean)) ∈ lw_tbl := lt_3 (List.mem_of_getElem? (i := 25) rfl)
theorem lx_258 : (Cond.fieldLink RX5 45 "SlopeRunner$Parser" "kind" "I") ∈ lw_tbl := lt_1 (List.mem_of_getElem? (i := 131) rfl)
theorem lx_259 : (Cond.code yX5_read cX5_read 3 (some .boolean)) ∈ lw_tbl := lt_2 (List.mem_of_getElem? (i := 212) rfl)
theorem lx_260 : (Cond.fieldLink RX5 22 "SlopeRunner$Parser" "kindOfFault" "I") ∈ lw_tbl := lt_1 (List.mem_of_getElem? (i := 133) rfl)
theorem lx_261 : (Cond.fieldLink RX5 48 "SlopeRunner$Parser" "open" "I") ∈ lw_tbl := lt_1 (List.mem_of_getElem? (i := 132) rfl)
theorem lx_262 : (Cond.fieldLink RX5 38 "SlopeRunner$Parser" "at" "I") ∈ lw_tbl := lt_1 (List.mem_of_getElem? (i := 130) rfl)
theorem lx_263 : (Cond.fieldLink RX5 34 "SlopeRunner$Parser" "into" "LSlopeRunner$Program;") ∈ lw_tbl := lt_1 (List.mem_of_getElem? (i := 129) rfl)
theorem lx_264 : (Cond.selects RX10 yX10_cut yX10_cut) ∈ lw_tbl := lt_2 (List.mem_of_getElem? (i := 215) rfl)
theorem lx_265 : (Cond.instanceMethod yX10_cut) ∈ lw_tbl := lt_2 (List.mem_of_getElem? (i := 214) rfl)
theorem lx_266 : (Cond.methodLink RX5 25 yX10_cut) ∈ lw_tbl := lt_2 (List.mem_of_getElem? (i := 213) rfl)
theorem lx_267 : (Cond.selects RX6 yX6_clear yX6_clear) ∈ lw_tbl := lt_3 (List.mem_of_getElem? (i := 16) rfl)
theorem lx_268 : (Cond.instanceMethod yX6_clear) ∈ lw_tbl := lt_3 (List.mem_of_getElem? (i := 15) rfl)
theorem lx_269 : (Cond.methodLink RX5 29 yX6_clear) ∈ lw_tbl := lt_3 (List.mem_of_getElem? (i := 14) rfl)
theorem lx_270 : (Cond.selects RX10 yX10_kindAt yX10_kindAt) ∈ lw_tbl := lt_3 (List.mem_of_getElem? (i := 20) rfl)
theorem lx_271 : (Cond.instanceMethod yX10_kindAt) ∈ lw_tbl := lt_3 (List.mem_of_getElem? (i := 19) rfl)
theorem lx_272 : (Cond.methodLink RX5 41 yX10_kindAt) ∈ lw_tbl := lt_3 (List.mem_of_getElem? (i := 18) rfl)
theorem lx_273 : (Cond.selects RX5 yX5_statements yX5_statements) ∈ lw_tbl := lp_1 (q := (⟨"SlopeRunner$Parser", "statements", "(Z)Z"⟩, 8)) (List.mem_of_getElem? (i := 5) rfl)
theorem lx_274 : (Cond.instanceMethod yX5_statements) ∈ lw_tbl := lt_3 (List.mem_of_getElem? (i := 24) rfl)
theorem lx_275 : (Cond.methodLink RX5 51 yX5_statements) ∈ lw_tbl := lt_3 (List.mem_of_getElem? (i := 22) rfl)
theorem lx_276 : (Cond.code yX2_begin cX2_begin 3 none) ∈ lw_tbl := lt_3 (List.mem_of_getElem? (i := 204) rfl)
theorem lx_277 : (Cond.fieldLink RX2 32 "SlopeRunner$Inputs" "known" "I") ∈ lw_tbl := lt_1 (List.mem_of_getElem? (i := 166) rfl)
theorem lx_278 : (Cond.fieldLink RX2 29 "SlopeRunner$Inputs" "done" "I") ∈ lw_tbl := lt_1 (List.mem_of_getElem? (i := 165) rfl)
theorem lx_279 : (Cond.fieldLink RX2 25 "SlopeRunner$Inputs" "count" "I") ∈ lw_tbl := lt_1 (List.mem_of_getElem? (i := 164) rfl)
theorem lx_280 : (Cond.code yX8_forget cX8_forget 1 none) ∈ lw_tbl := lt_3 (List.mem_of_getElem? (i := 208) rfl)
theorem lx_281 : (Cond.fieldLink RX8 53 "SlopeRunner$Tape" "edges" "I") ∈ lw_tbl := lt_2 (List.mem_of_getElem? (i := 55) rfl)
theorem lx_282 : (Cond.fieldLink RX8 50 "SlopeRunner$Tape" "results" "I") ∈ lw_tbl := lt_2 (List.mem_of_getElem? (i := 53) rfl)
theorem lx_283 : (Cond.fieldLink RX8 47 "SlopeRunner$Tape" "steps" "I") ∈ lw_tbl := lt_2 (List.mem_of_getElem? (i := 50) rfl)
theorem lx_284 : (Cond.fieldLink RX8 44 "SlopeRunner$Tape" "size" "I") ∈ lw_tbl := lt_2 (List.mem_of_getElem? (i := 48) rfl)
theorem lx_285 : (Cond.fieldLink RX8 41 "SlopeRunner$Tape" "firstStep" "I") ∈ lw_tbl := lt_2 (List.mem_of_getElem? (i := 46) rfl)
theorem lx_286 : (Cond.fieldLink RX8 38 "SlopeRunner$Tape" "inputs" "I") ∈ lw_tbl := lt_2 (List.mem_of_getElem? (i := 43) rfl)
theorem lx_287 : (Cond.code yX1_forget cX1_forget 1 none) ∈ lw_tbl := lt_3 (List.mem_of_getElem? (i := 212) rfl)
theorem lx_288 : (Cond.fieldLink RX1 20 "SlopeRunner$Grouping" "inputs" "I") ∈ lw_tbl := lt_1 (List.mem_of_getElem? (i := 238) rfl)
theorem lx_289 : (Cond.code yX11_program cX11_program 3 (some .int)) ∈ lw_tbl := lt_2 (List.mem_of_getElem? (i := 208) rfl)
theorem lx_290 : (Cond.fieldLink RX11 107 "SlopeRunner$Program" "statements" "I") ∈ lw_tbl := lt_2 (List.mem_of_getElem? (i := 105) rfl)
theorem lx_291 : (Cond.fieldLink RX11 97 "SlopeRunner$Program" "inputs" "I") ∈ lw_tbl := lt_2 (List.mem_of_getElem? (i := 95) rfl)
theorem lx_292 : (Cond.selects RX5 yX5_read yX5_read) ∈ lw_tbl := lt_2 (List.mem_of_getElem? (i := 211) rfl)
theorem lx_293 : (Cond.instanceMethod yX5_read) ∈ lw_tbl := lt_2 (List.mem_of_getElem? (i := 210) rfl)
theorem lx_294 : (Cond.methodLink RX11 93 yX5_read) ∈ lw_tbl := lt_2 (List.mem_of_getElem? (i := 209) rfl)
theorem lx_295 : (Cond.selects RX2 yX2_begin yX2_begin) ∈ lw_tbl := lt_3 (List.mem_of_getElem? (i := 203) rfl)
theorem lx_296 : (Cond.instanceMethod yX2_begin) ∈ lw_tbl := lt_3 (List.mem_of_getElem? (i := 202) rfl)
theorem lx_297 : (Cond.methodLink RX11 100 yX2_begin) ∈ lw_tbl := lt_3 (List.mem_of_getElem? (i := 201) rfl)
theorem lx_298 : (Cond.selects RX8 yX8_forget yX8_forget) ∈ lw_tbl := lt_3 (List.mem_of_getElem? (i := 207) rfl)
theorem lx_299 : (Cond.instanceMethod yX8_forget) ∈ lw_tbl := lt_3 (List.mem_of_getElem? (i := 206) rfl)
theorem lx_300 : (Cond.methodLink RX11 103 yX8_forget) ∈ lw_tbl := lt_3 (List.mem_of_getElem? (i := 205) rfl)
theorem lx_301 : (Cond.selects RX1 yX1_forget yX1_forget) ∈ lw_tbl := lt_3 (List.mem_of_getElem? (i := 211) rfl)
theorem lx_302 : (Cond.instanceMethod yX1_forget) ∈ lw_tbl := lt_3 (List.mem_of_getElem? (i := 210) rfl)
theorem lx_303 : (Cond.methodLink RX11 106 yX1_forget) ∈ lw_tbl := lt_3 (List.mem_of_getElem? (i := 209) rfl)
theorem lx_304 : (Cond.code yX12_look cX12_look 1 (some .int)) ∈ lw_tbl := lt_6 (List.mem_of_getElem? (i := 189) rfl)
theorem lx_305 : (Cond.fieldLink RX12 200 "SlopeRunnerModel" "end" "I") ∈ lw_tbl := lt_5 (List.mem_of_getElem? (i := 156) rfl)
theorem lx_306 : (Cond.fieldLink RX12 197 "SlopeRunnerModel" "at" "I") ∈ lw_tbl := lt_5 (List.mem_of_getElem? (i := 155) rfl)
theorem lx_307 : (Cond.code yX12_reads cX12_reads 3 none) ∈ lw_tbl := lt_6 (List.mem_of_getElem? (i := 185) rfl)
theorem lx_308 : (Cond.fieldLink RX12 332 "SlopeRunnerModel" "blocks" "I") ∈ lw_tbl := lt_5 (List.mem_of_getElem? (i := 192) rfl)
theorem lx_309 : (Cond.fieldLink RX12 191 "SlopeRunnerModel" "bad" "I") ∈ lw_tbl := lt_5 (List.mem_of_getElem? (i := 158) rfl)
theorem lx_310 : (Cond.selects RX12 yX12_look yX12_look) ∈ lw_tbl := lp_5 (q := (⟨"SlopeRunnerModel", "look", "()I"⟩, 85)) (List.mem_of_getElem? (i := 1) rfl)
theorem lx_311 : (Cond.instanceMethod yX12_look) ∈ lw_tbl := lt_6 (List.mem_of_getElem? (i := 188) rfl)
theorem lx_312 : (Cond.methodLink RX12 203 yX12_look) ∈ lw_tbl := lt_6 (List.mem_of_getElem? (i := 186) rfl)
theorem lx_313 : (Cond.code yX12_program cX12_program 2 (some .int)) ∈ lw_tbl := lt_6 (List.mem_of_getElem? (i := 181) rfl)
theorem lx_314 : (Cond.fieldLink RX12 375 "SlopeRunnerModel" "hasGroups" "Z") ∈ lw_tbl := lt_5 (List.mem_of_getElem? (i := 231) rfl)
theorem lx_315 : (Cond.fieldLink RX12 371 "SlopeRunnerModel" "hasRun" "Z") ∈ lw_tbl := lt_5 (List.mem_of_getElem? (i := 207) rfl)
theorem lx_316 : (Cond.fieldLink RX12 368 "SlopeRunnerModel" "doneAll" "I") ∈ lw_tbl := lt_5 (List.mem_of_getElem? (i := 201) rfl)
theorem lx_317 : (Cond.fieldLink RX12 365 "SlopeRunnerModel" "done" "I") ∈ lw_tbl := lt_5 (List.mem_of_getElem? (i := 200) rfl)
theorem lx_318 : (Cond.fieldLink RX12 362 "SlopeRunnerModel" "fault" "I") ∈ lw_tbl := lt_5 (List.mem_of_getElem? (i := 160) rfl)
theorem lx_319 : (Cond.fieldLink RX12 260 "SlopeRunnerModel" "open" "I") ∈ lw_tbl := lt_5 (List.mem_of_getElem? (i := 185) rfl)
theorem lx_320 : (Cond.fieldLink RX12 249 "SlopeRunnerModel" "names" "I") ∈ lw_tbl := lt_5 (List.mem_of_getElem? (i := 186) rfl)
theorem lx_321 : (Cond.fieldLink RX12 246 "SlopeRunnerModel" "coded" "I") ∈ lw_tbl := lt_5 (List.mem_of_getElem? (i := 182) rfl)
theorem lx_322 : (Cond.fieldLink RX12 194 "SlopeRunnerModel" "badPlace" "I") ∈ lw_tbl := lt_5 (List.mem_of_getElem? (i := 159) rfl)
theorem lx_323 : (Cond.fieldLink RX12 211 "SlopeRunnerModel" "ended" "I") ∈ lw_tbl := lt_5 (List.mem_of_getElem? (i := 157) rfl)
theorem lx_324 : (Cond.selects RX12 yX12_reads yX12_reads) ∈ lw_tbl := lp_5 (q := (⟨"SlopeRunnerModel", "reads", "()V"⟩, 85)) (List.mem_of_getElem? (i := 0) rfl)
theorem lx_325 : (Cond.instanceMethod yX12_reads) ∈ lw_tbl := lt_6 (List.mem_of_getElem? (i := 184) rfl)
theorem lx_326 : (Cond.methodLink RX12 359 yX12_reads) ∈ lw_tbl := lt_6 (List.mem_of_getElem? (i := 182) rfl)
theorem lx_327 : (Cond.code yX5_faultKind cX5_faultKind 1 (some .int)) ∈ lw_tbl := lt_3 (List.mem_of_getElem? (i := 220) rfl)
theorem lx_328 : (Cond.code yX5_faultPlace cX5_faultPlace 1 (some .int)) ∈ lw_tbl := lt_3 (List.mem_of_getElem? (i := 224) rfl)
theorem lx_329 : (Cond.code yX11_fault cX11_fault 2 (some .int)) ∈ lw_tbl := lt_3 (List.mem_of_getElem? (i := 216) rfl)
theorem lx_330 : (Cond.selects RX5 yX5_faultKind yX5_faultKind) ∈ lw_tbl := lt_3 (List.mem_of_getElem? (i := 219) rfl)
theorem lx_331 : (Cond.instanceMethod yX5_faultKind) ∈ lw_tbl := lt_3 (List.mem_of_getElem? (i := 218) rfl)
theorem lx_332 : (Cond.methodLink RX11 110 yX5_faultKind) ∈ lw_tbl := lt_3 (List.mem_of_getElem? (i := 217) rfl)
theorem lx_333 : (Cond.selects RX5 yX5_faultPlace yX5_faultPlace) ∈ lw_tbl := lt_3 (List.mem_of_getElem? (i := 223) rfl)
theorem lx_334 : (Cond.instanceMethod yX5_faultPlace) ∈ lw_tbl := lt_3 (List.mem_of_getElem? (i := 222) rfl)
theorem lx_335 : (Cond.methodLink RX11 113 yX5_faultPlace) ∈ lw_tbl := lt_3 (List.mem_of_getElem? (i := 221) rfl)
theorem lx_336 : (Cond.code yX12_fault cX12_fault 2 (some .int)) ∈ lw_tbl := lt_7 (List.mem_of_getElem? (i := 104) rfl)
theorem lx_337 : (Cond.code yX11_has cX11_has 2 (some .int)) ∈ lw_tbl := lt_3 (List.mem_of_getElem? (i := 228) rfl)
theorem lx_338 : (Cond.fieldLink RX11 122 "SlopeRunner$Program" "numbers" "I") ∈ lw_tbl := lt_2 (List.mem_of_getElem? (i := 109) rfl)
theorem lx_339 : (Cond.fieldLink RX11 119 "SlopeRunner$Program" "vars" "I") ∈ lw_tbl := lt_2 (List.mem_of_getElem? (i := 102) rfl)
theorem lx_340 : (Cond.fieldLink RX11 116 "SlopeRunner$Program" "rows" "I") ∈ lw_tbl := lt_2 (List.mem_of_getElem? (i := 99) rfl)
theorem lx_341 : (Cond.code yX12_isIn cX12_isIn 6 (some .boolean)) ∈ lw_tbl := lt_7 (List.mem_of_getElem? (i := 24) rfl)
theorem lx_342 : (Cond.code yX12_has cX12_has 2 (some .int)) ∈ lw_tbl := lt_7 (List.mem_of_getElem? (i := 108) rfl)
theorem lx_343 : (Cond.constantLong RX12 378 4) ∈ lw_tbl := lt_7 (List.mem_of_getElem? (i := 109) rfl)
theorem lx_344 : (Cond.static yX12_isIn) ∈ lw_tbl := lt_7 (List.mem_of_getElem? (i := 23) rfl)
theorem lx_345 : (Cond.methodLink RX12 231 yX12_isIn) ∈ lw_tbl := lt_7 (List.mem_of_getElem? (i := 22) rfl)
theorem lx_346 : (Cond.code yX2_holds cX2_holds 2 (some .boolean)) ∈ lw_tbl := lt_3 (List.mem_of_getElem? (i := 236) rfl)
theorem lx_347 : (Cond.code yX11_put cX11_put 4 (some .boolean)) ∈ lw_tbl := lt_3 (List.mem_of_getElem? (i := 232) rfl)
theorem lx_348 : (Cond.selects RX2 yX2_holds yX2_holds) ∈ lw_tbl := lt_3 (List.mem_of_getElem? (i := 235) rfl)
theorem lx_349 : (Cond.instanceMethod yX2_holds) ∈ lw_tbl := lt_3 (List.mem_of_getElem? (i := 234) rfl)
theorem lx_350 : (Cond.methodLink RX11 125 yX2_holds) ∈ lw_tbl := lt_3 (List.mem_of_getElem? (i := 233) rfl)
theorem lx_351 : (Cond.code yX12_put cX12_put 6 (some .boolean)) ∈ lw_tbl := lt_7 (List.mem_of_getElem? (i := 113) rfl)
theorem lx_352 : (Cond.code yX2_stepBack cX2_stepBack 1 (some .boolean)) ∈ lw_tbl := lt_4 (List.mem_of_getElem? (i := 30) rfl)
theorem lx_353 : (Cond.code yX11_undo cX11_undo 1 (some .boolean)) ∈ lw_tbl := lt_4 (List.mem_of_getElem? (i := 26) rfl)
theorem lx_354 : (Cond.selects RX2 yX2_stepBack yX2_stepBack) ∈ lw_tbl := lt_4 (List.mem_of_getElem? (i := 29) rfl)
theorem lx_355 : (Cond.instanceMethod yX2_stepBack) ∈ lw_tbl := lt_4 (List.mem_of_getElem? (i := 28) rfl)
theorem lx_356 : (Cond.methodLink RX11 142 yX2_stepBack) ∈ lw_tbl := lt_4 (List.mem_of_getElem? (i := 27) rfl)
theorem lx_357 : (Cond.code yX12_undo cX12_undo 1 (some .boolean)) ∈ lw_tbl := lt_7 (List.mem_of_getElem? (i := 125) rfl)
theorem lx_358 : (Cond.code yX2_stepOn cX2_stepOn 1 (some .boolean)) ∈ lw_tbl := lt_4 (List.mem_of_getElem? (i := 38) rfl)
theorem lx_359 : (Cond.code yX11_redo cX11_redo 1 (some .boolean)) ∈ lw_tbl := lt_4 (List.mem_of_getElem? (i := 34) rfl)
theorem lx_360 : (Cond.selects RX2 yX2_stepOn yX2_stepOn) ∈ lw_tbl := lt_4 (List.mem_of_getElem? (i := 37) rfl)
theorem lx_361 : (Cond.instanceMethod yX2_stepOn) ∈ lw_tbl := lt_4 (List.mem_of_getElem? (i := 36) rfl)
theorem lx_362 : (Cond.methodLink RX11 146 yX2_stepOn) ∈ lw_tbl := lt_4 (List.mem_of_getElem? (i := 35) rfl)
theorem lx_363 : (Cond.code yX12_redo cX12_redo 1 (some .boolean)) ∈ lw_tbl := lt_7 (List.mem_of_getElem? (i := 129) rfl)
theorem lx_364 : (Cond.code yX2_valueOf cX2_valueOf 2 (some .long)) ∈ lw_tbl := lt_4 (List.mem_of_getElem? (i := 46) rfl)
theorem lx_365 : (Cond.methodLink RX2 37 yX2_holds) ∈ lw_tbl := lt_4 (List.mem_of_getElem? (i := 17) rfl)
theorem lx_366 : (Cond.code yX11_answer cX11_answer 3 (some .long)) ∈ lw_tbl := lt_4 (List.mem_of_getElem? (i := 49) rfl)
theorem lx_367 : (Cond.constantLong RX11 192 (-2000000000)) ∈ lw_tbl := lt_4 (List.mem_of_getElem? (i := 50) rfl)
theorem lx_368 : (Cond.code yX11_input cX11_input 3 (some .long)) ∈ lw_tbl := lt_4 (List.mem_of_getElem? (i := 42) rfl)
theorem lx_369 : (Cond.selects RX2 yX2_valueOf yX2_valueOf) ∈ lw_tbl := lt_4 (List.mem_of_getElem? (i := 45) rfl)
theorem lx_370 : (Cond.instanceMethod yX2_valueOf) ∈ lw_tbl := lt_4 (List.mem_of_getElem? (i := 44) rfl)
theorem lx_371 : (Cond.methodLink RX11 149 yX2_valueOf) ∈ lw_tbl := lt_4 (List.mem_of_getElem? (i := 43) rfl)
theorem lx_372 : (Cond.static yX11_answer) ∈ lw_tbl := lt_4 (List.mem_of_getElem? (i := 48) rfl)
theorem lx_373 : (Cond.methodLink RX11 153 yX11_answer) ∈ lw_tbl := lt_4 (List.mem_of_getElem? (i := 47) rfl)
theorem lx_374 : (Cond.code yX12_input cX12_input 3 (some .long)) ∈ lw_tbl := lt_7 (List.mem_of_getElem? (i := 133) rfl)
theorem lx_375 : (Cond.constantLong RX12 406 (-2000000000)) ∈ lw_tbl := lt_7 (List.mem_of_getElem? (i := 134) rfl)
theorem lx_376 : (Cond.code yX8_zeroAt cX8_zeroAt 1 (some .int)) ∈ lw_tbl := lt_4 (List.mem_of_getElem? (i := 70) rfl)
theorem lx_377 : (Cond.code yX8_begin cX8_begin 4 none) ∈ lw_tbl := lt_4 (List.mem_of_getElem? (i := 65) rfl)
theorem lx_378 : (Cond.fieldLink RX8 60 "SlopeRunner$Program" "numbers" "I") ∈ lw_tbl := lt_2 (List.mem_of_getElem? (i := 108) rfl)
theorem lx_379 : (Cond.fieldLink RX8 59 "SlopeRunner$Program" "inputs" "I") ∈ lw_tbl := lt_2 (List.mem_of_getElem? (i := 94) rfl)
theorem lx_380 : (Cond.methodLink RX8 56 yX8_forget) ∈ lw_tbl := lt_4 (List.mem_of_getElem? (i := 66) rfl)
theorem lx_381 : (Cond.selects RX8 yX8_zeroAt yX8_zeroAt) ∈ lw_tbl := lt_4 (List.mem_of_getElem? (i := 69) rfl)
theorem lx_382 : (Cond.instanceMethod yX8_zeroAt) ∈ lw_tbl := lt_4 (List.mem_of_getElem? (i := 68) rfl)
theorem lx_383 : (Cond.methodLink RX8 63 yX8_zeroAt) ∈ lw_tbl := lt_4 (List.mem_of_getElem? (i := 67) rfl)
theorem lx_384 : (Cond.code yX6_whatAt cX6_whatAt 2 (some .int)) ∈ lw_tbl := lt_4 (List.mem_of_getElem? (i := 89) rfl)
theorem lx_385 : (Cond.code yX6_argumentAt cX6_argumentAt 2 (some .int)) ∈ lw_tbl := lt_4 (List.mem_of_getElem? (i := 93) rfl)
theorem lx_386 : (Cond.code yX4_play cX4_play 6 (some .int)) ∈ lw_tbl := lt_4 (List.mem_of_getElem? (i := 83) rfl)
theorem lx_387 : (Cond.constant RX4 44 701400) ∈ lw_tbl := lt_4 (List.mem_of_getElem? (i := 85) rfl)
theorem lx_388 : (Cond.fieldLink RX4 35 "SlopeRunner$Program" "inputs" "I") ∈ lw_tbl := lt_2 (List.mem_of_getElem? (i := 93) rfl)
theorem lx_389 : (Cond.fieldLink RX4 45 "SlopeRunner$Tape" "state" "I") ∈ lw_tbl := lt_2 (List.mem_of_getElem? (i := 41) rfl)
theorem lx_390 : (Cond.fieldLink RX4 32 "SlopeRunner$Machine" "at" "I") ∈ lw_tbl := lt_1 (List.mem_of_getElem? (i := 193) rfl)
theorem lx_391 : (Cond.fieldLink RX4 28 "SlopeRunner$Machine" "top" "I") ∈ lw_tbl := lt_1 (List.mem_of_getElem? (i := 192) rfl)
theorem lx_392 : (Cond.fieldLink RX4 24 "SlopeRunner$Machine" "tape" "LSlopeRunner$Tape;") ∈ lw_tbl := lt_1 (List.mem_of_getElem? (i := 191) rfl)
theorem lx_393 : (Cond.fieldLink RX4 20 "SlopeRunner$Machine" "program" "LSlopeRunner$Program;") ∈ lw_tbl := lt_1 (List.mem_of_getElem? (i := 190) rfl)
theorem lx_394 : (Cond.selects RX6 yX6_whatAt yX6_whatAt) ∈ lw_tbl := lt_4 (List.mem_of_getElem? (i := 88) rfl)
theorem lx_395 : (Cond.instanceMethod yX6_whatAt) ∈ lw_tbl := lt_4 (List.mem_of_getElem? (i := 87) rfl)
theorem lx_396 : (Cond.methodLink RX4 48 yX6_whatAt) ∈ lw_tbl := lt_4 (List.mem_of_getElem? (i := 86) rfl)
theorem lx_397 : (Cond.selects RX6 yX6_argumentAt yX6_argumentAt) ∈ lw_tbl := lt_4 (List.mem_of_getElem? (i := 92) rfl)
theorem lx_398 : (Cond.instanceMethod yX6_argumentAt) ∈ lw_tbl := lt_4 (List.mem_of_getElem? (i := 91) rfl)
theorem lx_399 : (Cond.methodLink RX4 52 yX6_argumentAt) ∈ lw_tbl := lt_4 (List.mem_of_getElem? (i := 90) rfl)
theorem lx_400 : (Cond.methodLink RX4 38 yX8_zeroAt) ∈ lw_tbl := lt_4 (List.mem_of_getElem? (i := 84) rfl)
theorem lx_401 : (Cond.code yX11_run cX11_run 1 (some .int)) ∈ lw_tbl := lt_4 (List.mem_of_getElem? (i := 61) rfl)
theorem lx_402 : (Cond.fieldLink RX11 157 "SlopeRunner$Inputs" "value" "[J") ∈ lw_tbl := lt_1 (List.mem_of_getElem? (i := 160) rfl)
theorem lx_403 : (Cond.selects RX8 yX8_begin yX8_begin) ∈ lw_tbl := lt_4 (List.mem_of_getElem? (i := 64) rfl)
theorem lx_404 : (Cond.instanceMethod yX8_begin) ∈ lw_tbl := lt_4 (List.mem_of_getElem? (i := 63) rfl)
theorem lx_405 : (Cond.methodLink RX11 161 yX8_begin) ∈ lw_tbl := lt_4 (List.mem_of_getElem? (i := 62) rfl)
theorem lx_406 : (Cond.selects RX4 yX4_play yX4_play) ∈ lw_tbl := lt_4 (List.mem_of_getElem? (i := 82) rfl)
theorem lx_407 : (Cond.instanceMethod yX4_play) ∈ lw_tbl := lt_4 (List.mem_of_getElem? (i := 81) rfl)
theorem lx_408 : (Cond.methodLink RX11 164 yX4_play) ∈ lw_tbl := lt_4 (List.mem_of_getElem? (i := 80) rfl)
theorem lx_409 : (Cond.code yX12_lays cX12_lays 10 none) ∈ lw_tbl := lt_7 (List.mem_of_getElem? (i := 146) rfl)
theorem lx_410 : (Cond.code yX12_goes cX12_goes 4 none) ∈ lw_tbl := lt_7 (List.mem_of_getElem? (i := 142) rfl)
theorem lx_411 : (Cond.fieldLink RX12 412 "SlopeRunnerModel" "hasNear" "Z") ∈ lw_tbl := lt_5 (List.mem_of_getElem? (i := 221) rfl)
theorem lx_412 : (Cond.fieldLink RX12 421 "SlopeRunnerModel" "piled" "I") ∈ lw_tbl := lt_5 (List.mem_of_getElem? (i := 226) rfl)
theorem lx_413 : (Cond.selects RX12 yX12_lays yX12_lays) ∈ lw_tbl := lp_7 (q := (⟨"SlopeRunnerModel", "lays", "(IJJIII)V"⟩, 85)) (List.mem_of_getElem? (i := 6) rfl)
theorem lx_414 : (Cond.instanceMethod yX12_lays) ∈ lw_tbl := lt_7 (List.mem_of_getElem? (i := 145) rfl)
theorem lx_415 : (Cond.methodLink RX12 433 yX12_lays) ∈ lw_tbl := lt_7 (List.mem_of_getElem? (i := 143) rfl)
theorem lx_416 : (Cond.code yX12_run cX12_run 2 (some .int)) ∈ lw_tbl := lt_7 (List.mem_of_getElem? (i := 138) rfl)
theorem lx_417 : (Cond.selects RX12 yX12_goes yX12_goes) ∈ lw_tbl := lp_7 (q := (⟨"SlopeRunnerModel", "goes", "(I)V"⟩, 85)) (List.mem_of_getElem? (i := 5) rfl)
theorem lx_418 : (Cond.instanceMethod yX12_goes) ∈ lw_tbl := lt_7 (List.mem_of_getElem? (i := 141) rfl)
theorem lx_419 : (Cond.methodLink RX12 451 yX12_goes) ∈ lw_tbl := lt_7 (List.mem_of_getElem? (i := 139) rfl)
theorem lx_420 : (Cond.code yX11_ran cX11_ran 2 (some .int)) ∈ lw_tbl := lt_4 (List.mem_of_getElem? (i := 205) rfl)
theorem lx_421 : (Cond.fieldLink RX11 168 "SlopeRunner$Tape" "state" "I") ∈ lw_tbl := lt_2 (List.mem_of_getElem? (i := 42) rfl)
theorem lx_422 : (Cond.code yX12_ran cX12_ran 2 (some .int)) ∈ lw_tbl := lt_7 (List.mem_of_getElem? (i := 186) rfl)
theorem lx_423 : (Cond.code yX8_hasResult cX8_hasResult 2 (some .boolean)) ∈ lw_tbl := lt_4 (List.mem_of_getElem? (i := 217) rfl)
theorem lx_424 : (Cond.code yX8_resultValue cX8_resultValue 2 (some .long)) ∈ lw_tbl := lt_4 (List.mem_of_getElem? (i := 213) rfl)
theorem lx_425 : (Cond.selects RX8 yX8_hasResult yX8_hasResult) ∈ lw_tbl := lt_4 (List.mem_of_getElem? (i := 216) rfl)
theorem lx_426 : (Cond.instanceMethod yX8_hasResult) ∈ lw_tbl := lt_4 (List.mem_of_getElem? (i := 215) rfl)
theorem lx_427 : (Cond.methodLink RX8 76 yX8_hasResult) ∈ lw_tbl := lt_4 (List.mem_of_getElem? (i := 214) rfl)
theorem lx_428 : (Cond.code yX11_result cX11_result 3 (some .long)) ∈ lw_tbl := lt_4 (List.mem_of_getElem? (i := 209) rfl)
theorem lx_429 : (Cond.selects RX8 yX8_resultValue yX8_resultValue) ∈ lw_tbl := lt_4 (List.mem_of_getElem? (i := 212) rfl)
theorem lx_430 : (Cond.instanceMethod yX8_resultValue) ∈ lw_tbl := lt_4 (List.mem_of_getElem? (i := 211) rfl)
theorem lx_431 : (Cond.methodLink RX11 182 yX8_resultValue) ∈ lw_tbl := lt_4 (List.mem_of_getElem? (i := 210) rfl)
theorem lx_432 : (Cond.code yX12_isResult cX12_isResult 2 (some .boolean)) ∈ lw_tbl := lt_7 (List.mem_of_getElem? (i := 194) rfl)
theorem lx_433 : (Cond.code yX12_result cX12_result 3 (some .long)) ∈ lw_tbl := lt_7 (List.mem_of_getElem? (i := 190) rfl)
theorem lx_434 : (Cond.selects RX12 yX12_isResult yX12_isResult) ∈ lw_tbl := lp_8 (q := (⟨"SlopeRunnerModel", "isResult", "(I)Z"⟩, 85)) (List.mem_of_getElem? (i := 0) rfl)
theorem lx_435 : (Cond.instanceMethod yX12_isResult) ∈ lw_tbl := lt_7 (List.mem_of_getElem? (i := 193) rfl)
theorem lx_436 : (Cond.methodLink RX12 454 yX12_isResult) ∈ lw_tbl := lt_7 (List.mem_of_getElem? (i := 191) rfl)
theorem lx_437 : (Cond.code yX11_near cX11_near 2 (some .long)) ∈ lw_tbl := lt_4 (List.mem_of_getElem? (i := 222) rfl)
theorem lx_438 : (Cond.fieldLink RX11 185 "SlopeRunner$Tape" "nearest" "J") ∈ lw_tbl := lt_2 (List.mem_of_getElem? (i := 58) rfl)
theorem lx_439 : (Cond.code yX12_near cX12_near 2 (some .long)) ∈ lw_tbl := lt_7 (List.mem_of_getElem? (i := 198) rfl)
theorem lx_440 : (Cond.code yX8_hasBoth cX8_hasBoth 3 (some .boolean)) ∈ lw_tbl := lt_4 (List.mem_of_getElem? (i := 230) rfl)
theorem lx_441 : (Cond.code yX11_forward cX11_forward 4 (some .long)) ∈ lw_tbl := lt_4 (List.mem_of_getElem? (i := 226) rfl)
theorem lx_442 : (Cond.selects RX8 yX8_hasBoth yX8_hasBoth) ∈ lw_tbl := lt_4 (List.mem_of_getElem? (i := 229) rfl)
theorem lx_443 : (Cond.instanceMethod yX8_hasBoth) ∈ lw_tbl := lt_4 (List.mem_of_getElem? (i := 228) rfl)
theorem lx_444 : (Cond.methodLink RX11 189 yX8_hasBoth) ∈ lw_tbl := lt_4 (List.mem_of_getElem? (i := 227) rfl)
theorem lx_445 : (Cond.code yX12_forward cX12_forward 4 (some .long)) ∈ lw_tbl := lt_7 (List.mem_of_getElem? (i := 202) rfl)
theorem lx_446 : (Cond.code yX11_backward cX11_backward 4 (some .long)) ∈ lw_tbl := lt_5 (List.mem_of_getElem? (i := 19) rfl)
theorem lx_447 : (Cond.code yX12_backward cX12_backward 5 (some .long)) ∈ lw_tbl := lt_7 (List.mem_of_getElem? (i := 226) rfl)
theorem lx_448 : (Cond.code yX11_twice cX11_twice 5 (some .long)) ∈ lw_tbl := lt_5 (List.mem_of_getElem? (i := 33) rfl)
theorem lx_449 : (Cond.code yX12_twice cX12_twice 6 (some .long)) ∈ lw_tbl := lt_7 (List.mem_of_getElem? (i := 238) rfl)
theorem lx_450 : (Cond.code yX11_difference cX11_difference 12 (some .long)) ∈ lw_tbl := lt_5 (List.mem_of_getElem? (i := 57) rfl)
theorem lx_451 : (Cond.code yX12_difference cX12_difference 11 (some .long)) ∈ lw_tbl := lt_8 (List.mem_of_getElem? (i := 6) rfl)
theorem lx_452 : (Cond.code yX11_moves cX11_moves 2 (some .int)) ∈ lw_tbl := lt_5 (List.mem_of_getElem? (i := 69) rfl)
theorem lx_453 : (Cond.methodLink RX11 221 yX8_hasResult) ∈ lw_tbl := lt_5 (List.mem_of_getElem? (i := 70) rfl)
theorem lx_454 : (Cond.code yX12_moves cX12_moves 2 (some .int)) ∈ lw_tbl := lt_8 (List.mem_of_getElem? (i := 10) rfl)
theorem lx_455 : (Cond.code yX11_ways cX11_ways 3 (some .int)) ∈ lw_tbl := lt_5 (List.mem_of_getElem? (i := 78) rfl)
theorem lx_456 : (Cond.code yX12_ways cX12_ways 5 (some .int)) ∈ lw_tbl := lt_8 (List.mem_of_getElem? (i := 18) rfl)
theorem lx_457 : (Cond.code yX11_groups cX11_groups 2 (some .int)) ∈ lw_tbl := lt_5 (List.mem_of_getElem? (i := 90) rfl)
theorem lx_458 : (Cond.code yX12_groups cX12_groups 4 (some .int)) ∈ lw_tbl := lt_8 (List.mem_of_getElem? (i := 22) rfl)
theorem lx_459 : (Cond.code yX1_groupOf cX1_groupOf 2 (some .int)) ∈ lw_tbl := lt_5 (List.mem_of_getElem? (i := 118) rfl)
theorem lx_460 : (Cond.code yX11_group cX11_group 2 (some .int)) ∈ lw_tbl := lt_5 (List.mem_of_getElem? (i := 114) rfl)
theorem lx_461 : (Cond.selects RX1 yX1_groupOf yX1_groupOf) ∈ lw_tbl := lt_5 (List.mem_of_getElem? (i := 117) rfl)
theorem lx_462 : (Cond.instanceMethod yX1_groupOf) ∈ lw_tbl := lt_5 (List.mem_of_getElem? (i := 116) rfl)
theorem lx_463 : (Cond.methodLink RX11 240 yX1_groupOf) ∈ lw_tbl := lt_5 (List.mem_of_getElem? (i := 115) rfl)
theorem lx_464 : (Cond.code yX12_group cX12_group 2 (some .int)) ∈ lw_tbl := lt_8 (List.mem_of_getElem? (i := 34) rfl)
theorem lx_465 : (Cond.code yX3_canBe cX3_canBe 2 (some .boolean)) ∈ lw_tbl := lt_5 (List.mem_of_getElem? (i := 129) rfl)
theorem lx_466 : (Cond.code yX3_fillOne cX3_fillOne 5 none) ∈ lw_tbl := lt_5 (List.mem_of_getElem? (i := 137) rfl)
theorem lx_467 : (Cond.constant RX3 34 1000000) ∈ lw_tbl := lt_5 (List.mem_of_getElem? (i := 138) rfl)
theorem lx_468 : (Cond.code yX3_fill cX3_fill 3 none) ∈ lw_tbl := lt_5 (List.mem_of_getElem? (i := 133) rfl)
theorem lx_469 : (Cond.fieldLink RX3 26 "SlopeRunner$Keepers" "filled" "Z") ∈ lw_tbl := lt_2 (List.mem_of_getElem? (i := 16) rfl)
theorem lx_470 : (Cond.selects RX3 yX3_fillOne yX3_fillOne) ∈ lw_tbl := lp_4 (q := (⟨"SlopeRunner$Keepers", "fillOne", "(II)V"⟩, 3)) (List.mem_of_getElem? (i := 15) rfl)
theorem lx_471 : (Cond.instanceMethod yX3_fillOne) ∈ lw_tbl := lt_5 (List.mem_of_getElem? (i := 136) rfl)
theorem lx_472 : (Cond.methodLink RX3 30 yX3_fillOne) ∈ lw_tbl := lt_5 (List.mem_of_getElem? (i := 134) rfl)
theorem lx_473 : (Cond.code yX3_roundsAgain cX3_roundsAgain 3 (some .int)) ∈ lw_tbl := lt_5 (List.mem_of_getElem? (i := 126) rfl)
theorem lx_474 : (Cond.static yX3_canBe) ∈ lw_tbl := lt_5 (List.mem_of_getElem? (i := 128) rfl)
theorem lx_475 : (Cond.methodLink RX3 19 yX3_canBe) ∈ lw_tbl := lt_5 (List.mem_of_getElem? (i := 127) rfl)
theorem lx_476 : (Cond.selects RX3 yX3_fill yX3_fill) ∈ lw_tbl := lp_4 (q := (⟨"SlopeRunner$Keepers", "fill", "()V"⟩, 3)) (List.mem_of_getElem? (i := 14) rfl)
theorem lx_477 : (Cond.instanceMethod yX3_fill) ∈ lw_tbl := lt_5 (List.mem_of_getElem? (i := 132) rfl)
theorem lx_478 : (Cond.methodLink RX3 23 yX3_fill) ∈ lw_tbl := lt_5 (List.mem_of_getElem? (i := 130) rfl)
theorem lx_479 : (Cond.code yX11_again cX11_again 3 (some .int)) ∈ lw_tbl := lt_5 (List.mem_of_getElem? (i := 122) rfl)
theorem lx_480 : (Cond.selects RX3 yX3_roundsAgain yX3_roundsAgain) ∈ lw_tbl := lt_5 (List.mem_of_getElem? (i := 125) rfl)
theorem lx_481 : (Cond.instanceMethod yX3_roundsAgain) ∈ lw_tbl := lt_5 (List.mem_of_getElem? (i := 124) rfl)
theorem lx_482 : (Cond.methodLink RX11 244 yX3_roundsAgain) ∈ lw_tbl := lt_5 (List.mem_of_getElem? (i := 123) rfl)
theorem lx_483 : (Cond.code yX12_worksAgain cX12_worksAgain 6 none) ∈ lw_tbl := lt_8 (List.mem_of_getElem? (i := 44) rfl)
theorem lx_484 : (Cond.constant RX12 500 1000000) ∈ lw_tbl := lt_8 (List.mem_of_getElem? (i := 45) rfl)
theorem lx_485 : (Cond.fieldLink RX12 497 "SlopeRunnerModel" "hasAgain" "Z") ∈ lw_tbl := lt_5 (List.mem_of_getElem? (i := 235) rfl)
theorem lx_486 : (Cond.code yX12_again cX12_again 3 (some .int)) ∈ lw_tbl := lt_8 (List.mem_of_getElem? (i := 38) rfl)
theorem lx_487 : (Cond.constantLong RX12 503 10) ∈ lw_tbl := lt_8 (List.mem_of_getElem? (i := 40) rfl)
theorem lx_488 : (Cond.constantLong RX12 501 100) ∈ lw_tbl := lt_8 (List.mem_of_getElem? (i := 39) rfl)
theorem lx_489 : (Cond.selects RX12 yX12_worksAgain yX12_worksAgain) ∈ lw_tbl := lp_8 (q := (⟨"SlopeRunnerModel", "worksAgain", "()V"⟩, 85)) (List.mem_of_getElem? (i := 12) rfl)
theorem lx_490 : (Cond.instanceMethod yX12_worksAgain) ∈ lw_tbl := lt_8 (List.mem_of_getElem? (i := 43) rfl)
theorem lx_491 : (Cond.methodLink RX12 505 yX12_worksAgain) ∈ lw_tbl := lt_8 (List.mem_of_getElem? (i := 41) rfl)
theorem lx_492 : (Cond.code yX3_firstKept cX3_firstKept 3 (some .int)) ∈ lw_tbl := lt_5 (List.mem_of_getElem? (i := 146) rfl)
theorem lx_493 : (Cond.code yX11_first cX11_first 3 (some .int)) ∈ lw_tbl := lt_5 (List.mem_of_getElem? (i := 142) rfl)
theorem lx_494 : (Cond.selects RX3 yX3_firstKept yX3_firstKept) ∈ lw_tbl := lt_5 (List.mem_of_getElem? (i := 145) rfl)
theorem lx_495 : (Cond.instanceMethod yX3_firstKept) ∈ lw_tbl := lt_5 (List.mem_of_getElem? (i := 144) rfl)
theorem lx_496 : (Cond.methodLink RX11 248 yX3_firstKept) ∈ lw_tbl := lt_5 (List.mem_of_getElem? (i := 143) rfl)
theorem lx_497 : (Cond.code yX12_first cX12_first 3 (some .int)) ∈ lw_tbl := lt_8 (List.mem_of_getElem? (i := 49) rfl)
theorem lx_498 : (Cond.selects RX11 yX11_feed yX11_feed) ∈ lw_tbl := lt_2 (List.mem_of_getElem? (i := 183) rfl)
theorem lx_499 : (Cond.instanceMethod yX11_feed) ∈ lw_tbl := lt_2 (List.mem_of_getElem? (i := 182) rfl)
theorem lx_500 : (Cond.methodLink RL 13 yX11_feed) ∈ lw_tbl := lt_2 (List.mem_of_getElem? (i := 181) rfl)
theorem lx_501 : (Cond.selects RX12 yX12_feed yX12_feed) ∈ lw_tbl := lt_6 (List.mem_of_getElem? (i := 172) rfl)
theorem lx_502 : (Cond.instanceMethod yX12_feed) ∈ lw_tbl := lt_6 (List.mem_of_getElem? (i := 171) rfl)
theorem lx_503 : (Cond.methodLink RL 17 yX12_feed) ∈ lw_tbl := lt_6 (List.mem_of_getElem? (i := 170) rfl)
theorem lx_504 : (Cond.selects RX11 yX11_end yX11_end) ∈ lw_tbl := lt_2 (List.mem_of_getElem? (i := 199) rfl)
theorem lx_505 : (Cond.instanceMethod yX11_end) ∈ lw_tbl := lt_2 (List.mem_of_getElem? (i := 198) rfl)
theorem lx_506 : (Cond.methodLink RL 18 yX11_end) ∈ lw_tbl := lt_2 (List.mem_of_getElem? (i := 197) rfl)
theorem lx_507 : (Cond.selects RX12 yX12_end yX12_end) ∈ lw_tbl := lt_6 (List.mem_of_getElem? (i := 176) rfl)
theorem lx_508 : (Cond.instanceMethod yX12_end) ∈ lw_tbl := lt_6 (List.mem_of_getElem? (i := 175) rfl)
theorem lx_509 : (Cond.methodLink RL 22 yX12_end) ∈ lw_tbl := lt_6 (List.mem_of_getElem? (i := 174) rfl)
theorem lx_510 : (Cond.selects RX11 yX11_program yX11_program) ∈ lw_tbl := lt_2 (List.mem_of_getElem? (i := 207) rfl)
theorem lx_511 : (Cond.instanceMethod yX11_program) ∈ lw_tbl := lt_2 (List.mem_of_getElem? (i := 206) rfl)
theorem lx_512 : (Cond.methodLink RL 23 yX11_program) ∈ lw_tbl := lt_2 (List.mem_of_getElem? (i := 205) rfl)
theorem lx_513 : (Cond.selects RX12 yX12_program yX12_program) ∈ lw_tbl := lt_6 (List.mem_of_getElem? (i := 180) rfl)
theorem lx_514 : (Cond.instanceMethod yX12_program) ∈ lw_tbl := lt_6 (List.mem_of_getElem? (i := 179) rfl)
theorem lx_515 : (Cond.methodLink RL 27 yX12_program) ∈ lw_tbl := lt_6 (List.mem_of_getElem? (i := 178) rfl)
theorem lx_516 : (Cond.selects RX11 yX11_fault yX11_fault) ∈ lw_tbl := lt_3 (List.mem_of_getElem? (i := 215) rfl)
theorem lx_517 : (Cond.instanceMethod yX11_fault) ∈ lw_tbl := lt_3 (List.mem_of_getElem? (i := 214) rfl)
theorem lx_518 : (Cond.methodLink RL 28 yX11_fault) ∈ lw_tbl := lt_3 (List.mem_of_getElem? (i := 213) rfl)
theorem lx_519 : (Cond.selects RX12 yX12_fault yX12_fault) ∈ lw_tbl := lt_7 (List.mem_of_getElem? (i := 103) rfl)
theorem lx_520 : (Cond.instanceMethod yX12_fault) ∈ lw_tbl := lt_7 (List.mem_of_getElem? (i := 102) rfl)
theorem lx_521 : (Cond.methodLink RL 32 yX12_fault) ∈ lw_tbl := lt_7 (List.mem_of_getElem? (i := 101) rfl)
theorem lx_522 : (Cond.selects RX11 yX11_has yX11_has) ∈ lw_tbl := lt_3 (List.mem_of_getElem? (i := 227) rfl)
theorem lx_523 : (Cond.instanceMethod yX11_has) ∈ lw_tbl := lt_3 (List.mem_of_getElem? (i := 226) rfl)
theorem lx_524 : (Cond.methodLink RL 33 yX11_has) ∈ lw_tbl := lt_3 (List.mem_of_getElem? (i := 225) rfl)
theorem lx_525 : (Cond.selects RX12 yX12_has yX12_has) ∈ lw_tbl := lt_7 (List.mem_of_getElem? (i := 107) rfl)
theorem lx_526 : (Cond.instanceMethod yX12_has) ∈ lw_tbl := lt_7 (List.mem_of_getElem? (i := 106) rfl)
theorem lx_527 : (Cond.methodLink RL 36 yX12_has) ∈ lw_tbl := lt_7 (List.mem_of_getElem? (i := 105) rfl)
theorem lx_528 : (Cond.selects RX11 yX11_put yX11_put) ∈ lw_tbl := lt_3 (List.mem_of_getElem? (i := 231) rfl)
theorem lx_529 : (Cond.instanceMethod yX11_put) ∈ lw_tbl := lt_3 (List.mem_of_getElem? (i := 230) rfl)
theorem lx_530 : (Cond.methodLink RL 37 yX11_put) ∈ lw_tbl := lt_3 (List.mem_of_getElem? (i := 229) rfl)
theorem lx_531 : (Cond.selects RX12 yX12_put yX12_put) ∈ lw_tbl := lt_7 (List.mem_of_getElem? (i := 112) rfl)
theorem lx_532 : (Cond.instanceMethod yX12_put) ∈ lw_tbl := lt_7 (List.mem_of_getElem? (i := 111) rfl)
theorem lx_533 : (Cond.methodLink RL 41 yX12_put) ∈ lw_tbl := lt_7 (List.mem_of_getElem? (i := 110) rfl)
theorem lx_534 : (Cond.selects RX11 yX11_undo yX11_undo) ∈ lw_tbl := lt_4 (List.mem_of_getElem? (i := 25) rfl)
theorem lx_535 : (Cond.instanceMethod yX11_undo) ∈ lw_tbl := lt_4 (List.mem_of_getElem? (i := 24) rfl)
theorem lx_536 : (Cond.methodLink RL 42 yX11_undo) ∈ lw_tbl := lt_4 (List.mem_of_getElem? (i := 23) rfl)
theorem lx_537 : (Cond.selects RX12 yX12_undo yX12_undo) ∈ lw_tbl := lt_7 (List.mem_of_getElem? (i := 124) rfl)
theorem lx_538 : (Cond.instanceMethod yX12_undo) ∈ lw_tbl := lt_7 (List.mem_of_getElem? (i := 123) rfl)
theorem lx_539 : (Cond.methodLink RL 46 yX12_undo) ∈ lw_tbl := lt_7 (List.mem_of_getElem? (i := 122) rfl)
theorem lx_540 : (Cond.selects RX11 yX11_redo yX11_redo) ∈ lw_tbl := lt_4 (List.mem_of_getElem? (i := 33) rfl)
theorem lx_541 : (Cond.instanceMethod yX11_redo) ∈ lw_tbl := lt_4 (List.mem_of_getElem? (i := 32) rfl)
theorem lx_542 : (Cond.methodLink RL 47 yX11_redo) ∈ lw_tbl := lt_4 (List.mem_of_getElem? (i := 31) rfl)
theorem lx_543 : (Cond.selects RX12 yX12_redo yX12_redo) ∈ lw_tbl := lt_7 (List.mem_of_getElem? (i := 128) rfl)
theorem lx_544 : (Cond.instanceMethod yX12_redo) ∈ lw_tbl := lt_7 (List.mem_of_getElem? (i := 127) rfl)
theorem lx_545 : (Cond.methodLink RL 50 yX12_redo) ∈ lw_tbl := lt_7 (List.mem_of_getElem? (i := 126) rfl)
theorem lx_546 : (Cond.selects RX11 yX11_input yX11_input) ∈ lw_tbl := lt_4 (List.mem_of_getElem? (i := 41) rfl)
theorem lx_547 : (Cond.instanceMethod yX11_input) ∈ lw_tbl := lt_4 (List.mem_of_getElem? (i := 40) rfl)
theorem lx_548 : (Cond.methodLink RL 51 yX11_input) ∈ lw_tbl := lt_4 (List.mem_of_getElem? (i := 39) rfl)
theorem lx_549 : (Cond.selects RX12 yX12_input yX12_input) ∈ lw_tbl := lt_7 (List.mem_of_getElem? (i := 132) rfl)
theorem lx_550 : (Cond.instanceMethod yX12_input) ∈ lw_tbl := lt_7 (List.mem_of_getElem? (i := 131) rfl)
theorem lx_551 : (Cond.methodLink RL 55 yX12_input) ∈ lw_tbl := lt_7 (List.mem_of_getElem? (i := 130) rfl)
theorem lx_552 : (Cond.selects RX11 yX11_run yX11_run) ∈ lw_tbl := lt_4 (List.mem_of_getElem? (i := 60) rfl)
theorem lx_553 : (Cond.instanceMethod yX11_run) ∈ lw_tbl := lt_4 (List.mem_of_getElem? (i := 59) rfl)
theorem lx_554 : (Cond.methodLink RL 56 yX11_run) ∈ lw_tbl := lt_4 (List.mem_of_getElem? (i := 58) rfl)
theorem lx_555 : (Cond.selects RX12 yX12_run yX12_run) ∈ lw_tbl := lt_7 (List.mem_of_getElem? (i := 137) rfl)
theorem lx_556 : (Cond.instanceMethod yX12_run) ∈ lw_tbl := lt_7 (List.mem_of_getElem? (i := 136) rfl)
theorem lx_557 : (Cond.methodLink RL 59 yX12_run) ∈ lw_tbl := lt_7 (List.mem_of_getElem? (i := 135) rfl)
theorem lx_558 : (Cond.selects RX11 yX11_ran yX11_ran) ∈ lw_tbl := lt_4 (List.mem_of_getElem? (i := 204) rfl)
theorem lx_559 : (Cond.instanceMethod yX11_ran) ∈ lw_tbl := lt_4 (List.mem_of_getElem? (i := 203) rfl)
theorem lx_560 : (Cond.methodLink RL 60 yX11_ran) ∈ lw_tbl := lt_4 (List.mem_of_getElem? (i := 202) rfl)
theorem lx_561 : (Cond.selects RX12 yX12_ran yX12_ran) ∈ lw_tbl := lt_7 (List.mem_of_getElem? (i := 185) rfl)
theorem lx_562 : (Cond.instanceMethod yX12_ran) ∈ lw_tbl := lt_7 (List.mem_of_getElem? (i := 184) rfl)
theorem lx_563 : (Cond.methodLink RL 63 yX12_ran) ∈ lw_tbl := lt_7 (List.mem_of_getElem? (i := 183) rfl)
theorem lx_564 : (Cond.selects RX11 yX11_result yX11_result) ∈ lw_tbl := lt_4 (List.mem_of_getElem? (i := 208) rfl)
theorem lx_565 : (Cond.instanceMethod yX11_result) ∈ lw_tbl := lt_4 (List.mem_of_getElem? (i := 207) rfl)
theorem lx_566 : (Cond.methodLink RL 64 yX11_result) ∈ lw_tbl := lt_4 (List.mem_of_getElem? (i := 206) rfl)
theorem lx_567 : (Cond.selects RX12 yX12_result yX12_result) ∈ lw_tbl := lt_7 (List.mem_of_getElem? (i := 189) rfl)
theorem lx_568 : (Cond.instanceMethod yX12_result) ∈ lw_tbl := lt_7 (List.mem_of_getElem? (i := 188) rfl)
theorem lx_569 : (Cond.methodLink RL 67 yX12_result) ∈ lw_tbl := lt_7 (List.mem_of_getElem? (i := 187) rfl)
theorem lx_570 : (Cond.selects RX11 yX11_near yX11_near) ∈ lw_tbl := lt_4 (List.mem_of_getElem? (i := 221) rfl)
theorem lx_571 : (Cond.instanceMethod yX11_near) ∈ lw_tbl := lt_4 (List.mem_of_getElem? (i := 220) rfl)
theorem lx_572 : (Cond.methodLink RL 68 yX11_near) ∈ lw_tbl := lt_4 (List.mem_of_getElem? (i := 219) rfl)
theorem lx_573 : (Cond.selects RX12 yX12_near yX12_near) ∈ lw_tbl := lt_7 (List.mem_of_getElem? (i := 197) rfl)
theorem lx_574 : (Cond.instanceMethod yX12_near) ∈ lw_tbl := lt_7 (List.mem_of_getElem? (i := 196) rfl)
theorem lx_575 : (Cond.methodLink RL 72 yX12_near) ∈ lw_tbl := lt_7 (List.mem_of_getElem? (i := 195) rfl)
theorem lx_576 : (Cond.selects RX11 yX11_forward yX11_forward) ∈ lw_tbl := lt_4 (List.mem_of_getElem? (i := 225) rfl)
theorem lx_577 : (Cond.instanceMethod yX11_forward) ∈ lw_tbl := lt_4 (List.mem_of_getElem? (i := 224) rfl)
theorem lx_578 : (Cond.methodLink RL 73 yX11_forward) ∈ lw_tbl := lt_4 (List.mem_of_getElem? (i := 223) rfl)
theorem lx_579 : (Cond.selects RX12 yX12_forward yX12_forward) ∈ lw_tbl := lt_7 (List.mem_of_getElem? (i := 201) rfl)
theorem lx_580 : (Cond.instanceMethod yX12_forward) ∈ lw_tbl := lt_7 (List.mem_of_getElem? (i := 200) rfl)
theorem lx_581 : (Cond.methodLink RL 77 yX12_forward) ∈ lw_tbl := lt_7 (List.mem_of_getElem? (i := 199) rfl)
theorem lx_582 : (Cond.selects RX11 yX11_backward yX11_backward) ∈ lw_tbl := lt_5 (List.mem_of_getElem? (i := 18) rfl)
theorem lx_583 : (Cond.instanceMethod yX11_backward) ∈ lw_tbl := lt_5 (List.mem_of_getElem? (i := 17) rfl)
theorem lx_584 : (Cond.methodLink RL 78 yX11_backward) ∈ lw_tbl := lt_5 (List.mem_of_getElem? (i := 16) rfl)
theorem lx_585 : (Cond.selects RX12 yX12_backward yX12_backward) ∈ lw_tbl := lt_7 (List.mem_of_getElem? (i := 225) rfl)
theorem lx_586 : (Cond.instanceMethod yX12_backward) ∈ lw_tbl := lt_7 (List.mem_of_getElem? (i := 224) rfl)
theorem lx_587 : (Cond.methodLink RL 81 yX12_backward) ∈ lw_tbl := lt_7 (List.mem_of_getElem? (i := 223) rfl)
theorem lx_588 : (Cond.selects RX11 yX11_twice yX11_twice) ∈ lw_tbl := lt_5 (List.mem_of_getElem? (i := 32) rfl)
theorem lx_589 : (Cond.instanceMethod yX11_twice) ∈ lw_tbl := lt_5 (List.mem_of_getElem? (i := 31) rfl)
theorem lx_590 : (Cond.methodLink RL 82 yX11_twice) ∈ lw_tbl := lt_5 (List.mem_of_getElem? (i := 30) rfl)
theorem lx_591 : (Cond.selects RX12 yX12_twice yX12_twice) ∈ lw_tbl := lt_7 (List.mem_of_getElem? (i := 237) rfl)
theorem lx_592 : (Cond.instanceMethod yX12_twice) ∈ lw_tbl := lt_7 (List.mem_of_getElem? (i := 236) rfl)
theorem lx_593 : (Cond.methodLink RL 86 yX12_twice) ∈ lw_tbl := lt_7 (List.mem_of_getElem? (i := 235) rfl)
theorem lx_594 : (Cond.selects RX11 yX11_difference yX11_difference) ∈ lw_tbl := lt_5 (List.mem_of_getElem? (i := 56) rfl)
theorem lx_595 : (Cond.instanceMethod yX11_difference) ∈ lw_tbl := lt_5 (List.mem_of_getElem? (i := 55) rfl)
theorem lx_596 : (Cond.methodLink RL 87 yX11_difference) ∈ lw_tbl := lt_5 (List.mem_of_getElem? (i := 54) rfl)
theorem lx_597 : (Cond.selects RX12 yX12_difference yX12_difference) ∈ lw_tbl := lt_8 (List.mem_of_getElem? (i := 5) rfl)
theorem lx_598 : (Cond.instanceMethod yX12_difference) ∈ lw_tbl := lt_8 (List.mem_of_getElem? (i := 4) rfl)
theorem lx_599 : (Cond.methodLink RL 91 yX12_difference) ∈ lw_tbl := lt_8 (List.mem_of_getElem? (i := 3) rfl)
theorem lx_600 : (Cond.selects RX11 yX11_moves yX11_moves) ∈ lw_tbl := lt_5 (List.mem_of_getElem? (i := 68) rfl)
theorem lx_601 : (Cond.instanceMethod yX11_moves) ∈ lw_tbl := lt_5 (List.mem_of_getElem? (i := 67) rfl)
theorem lx_602 : (Cond.methodLink RL 92 yX11_moves) ∈ lw_tbl := lt_5 (List.mem_of_getElem? (i := 66) rfl)
theorem lx_603 : (Cond.selects RX12 yX12_moves yX12_moves) ∈ lw_tbl := lt_8 (List.mem_of_getElem? (i := 9) rfl)
theorem lx_604 : (Cond.instanceMethod yX12_moves) ∈ lw_tbl := lt_8 (List.mem_of_getElem? (i := 8) rfl)
theorem lx_605 : (Cond.methodLink RL 95 yX12_moves) ∈ lw_tbl := lt_8 (List.mem_of_getElem? (i := 7) rfl)
theorem lx_606 : (Cond.selects RX11 yX11_ways yX11_ways) ∈ lw_tbl := lt_5 (List.mem_of_getElem? (i := 77) rfl)
theorem lx_607 : (Cond.instanceMethod yX11_ways) ∈ lw_tbl := lt_5 (List.mem_of_getElem? (i := 76) rfl)
theorem lx_608 : (Cond.methodLink RL 96 yX11_ways) ∈ lw_tbl := lt_5 (List.mem_of_getElem? (i := 75) rfl)
theorem lx_609 : (Cond.selects RX12 yX12_ways yX12_ways) ∈ lw_tbl := lt_8 (List.mem_of_getElem? (i := 17) rfl)
theorem lx_610 : (Cond.instanceMethod yX12_ways) ∈ lw_tbl := lt_8 (List.mem_of_getElem? (i := 16) rfl)
theorem lx_611 : (Cond.methodLink RL 100 yX12_ways) ∈ lw_tbl := lt_8 (List.mem_of_getElem? (i := 15) rfl)
theorem lx_612 : (Cond.selects RX11 yX11_groups yX11_groups) ∈ lw_tbl := lt_5 (List.mem_of_getElem? (i := 89) rfl)
theorem lx_613 : (Cond.instanceMethod yX11_groups) ∈ lw_tbl := lt_5 (List.mem_of_getElem? (i := 88) rfl)
theorem lx_614 : (Cond.methodLink RL 101 yX11_groups) ∈ lw_tbl := lt_5 (List.mem_of_getElem? (i := 87) rfl)
theorem lx_615 : (Cond.selects RX12 yX12_groups yX12_groups) ∈ lw_tbl := lt_8 (List.mem_of_getElem? (i := 21) rfl)
theorem lx_616 : (Cond.instanceMethod yX12_groups) ∈ lw_tbl := lt_8 (List.mem_of_getElem? (i := 20) rfl)
theorem lx_617 : (Cond.methodLink RL 104 yX12_groups) ∈ lw_tbl := lt_8 (List.mem_of_getElem? (i := 19) rfl)
theorem lx_618 : (Cond.selects RX11 yX11_group yX11_group) ∈ lw_tbl := lt_5 (List.mem_of_getElem? (i := 113) rfl)
theorem lx_619 : (Cond.instanceMethod yX11_group) ∈ lw_tbl := lt_5 (List.mem_of_getElem? (i := 112) rfl)
theorem lx_620 : (Cond.methodLink RL 105 yX11_group) ∈ lw_tbl := lt_5 (List.mem_of_getElem? (i := 111) rfl)
theorem lx_621 : (Cond.selects RX12 yX12_group yX12_group) ∈ lw_tbl := lt_8 (List.mem_of_getElem? (i := 33) rfl)
theorem lx_622 : (Cond.instanceMethod yX12_group) ∈ lw_tbl := lt_8 (List.mem_of_getElem? (i := 32) rfl)
theorem lx_623 : (Cond.methodLink RL 108 yX12_group) ∈ lw_tbl := lt_8 (List.mem_of_getElem? (i := 31) rfl)
theorem lx_624 : (Cond.selects RX11 yX11_again yX11_again) ∈ lw_tbl := lt_5 (List.mem_of_getElem? (i := 121) rfl)
theorem lx_625 : (Cond.instanceMethod yX11_again) ∈ lw_tbl := lt_5 (List.mem_of_getElem? (i := 120) rfl)
theorem lx_626 : (Cond.methodLink RL 109 yX11_again) ∈ lw_tbl := lt_5 (List.mem_of_getElem? (i := 119) rfl)
theorem lx_627 : (Cond.selects RX12 yX12_again yX12_again) ∈ lw_tbl := lt_8 (List.mem_of_getElem? (i := 37) rfl)
theorem lx_628 : (Cond.instanceMethod yX12_again) ∈ lw_tbl := lt_8 (List.mem_of_getElem? (i := 36) rfl)
theorem lx_629 : (Cond.methodLink RL 112 yX12_again) ∈ lw_tbl := lt_8 (List.mem_of_getElem? (i := 35) rfl)
theorem lx_630 : (Cond.selects RX11 yX11_first yX11_first) ∈ lw_tbl := lt_5 (List.mem_of_getElem? (i := 141) rfl)
theorem lx_631 : (Cond.instanceMethod yX11_first) ∈ lw_tbl := lt_5 (List.mem_of_getElem? (i := 140) rfl)
theorem lx_632 : (Cond.methodLink RL 113 yX11_first) ∈ lw_tbl := lt_5 (List.mem_of_getElem? (i := 139) rfl)
theorem lx_633 : (Cond.selects RX12 yX12_first yX12_first) ∈ lw_tbl := lt_8 (List.mem_of_getElem? (i := 48) rfl)
theorem lx_634 : (Cond.instanceMethod yX12_first) ∈ lw_tbl := lt_8 (List.mem_of_getElem? (i := 47) rfl)
theorem lx_635 : (Cond.methodLink RL 116 yX12_first) ∈ lw_tbl := lt_8 (List.mem_of_getElem? (i := 46) rfl)
theorem lf_X1_0 : u_lay RX1 TX1 0 ∈ lw_tbl := lt_1 (List.mem_of_getElem? (i := 239) rfl)
theorem lf_X1_1 : u_lay RX1 TX1 1 ∈ lw_tbl := lt_2 (List.mem_of_getElem? (i := 1) rfl)
theorem lf_X1_2 : u_lay RX1 TX1 2 ∈ lw_tbl := lt_2 (List.mem_of_getElem? (i := 3) rfl)
theorem inX1 : ∀ w ∈ wsX10, w ∈ lw_tbl := by
  intro w hw
  obtain ⟨j, hj, rfl⟩ := List.mem_map.mp hw
  have hj := List.mem_range.mp hj
  match j, hj with
  | 0, _ => exact lf_X1_0
  | 1, _ => exact lf_X1_1
  | 2, _ => exact lf_X1_2
  | j + 3, h => exact absurd h (by omega)
theorem lf_X2_0 : u_lay RX2 TX2 0 ∈ lw_tbl := lt_1 (List.mem_of_getElem? (i := 167) rfl)
theorem lf_X2_1 : u_lay RX2 TX2 1 ∈ lw_tbl := lt_1 (List.mem_of_getElem? (i := 169) rfl)
theorem lf_X2_2 : u_lay RX2 TX2 2 ∈ lw_tbl := lt_1 (List.mem_of_getElem? (i := 171) rfl)
theorem lf_X2_3 : u_lay RX2 TX2 3 ∈ lw_tbl := lt_1 (List.mem_of_getElem? (i := 173) rfl)
theorem lf_X2_4 : u_lay RX2 TX2 4 ∈ lw_tbl := lt_1 (List.mem_of_getElem? (i := 175) rfl)
theorem lf_X2_5 : u_lay RX2 TX2 5 ∈ lw_tbl := lt_1 (List.mem_of_getElem? (i := 177) rfl)
theorem lf_X2_6 : u_lay RX2 TX2 6 ∈ lw_tbl := lt_1 (List.mem_of_getElem? (i := 179) rfl)
theorem inX2 : ∀ w ∈ wsX20, w ∈ lw_tbl := by
  intro w hw
  obtain ⟨j, hj, rfl⟩ := List.mem_map.mp hw
  have hj := List.mem_range.mp hj
  match j, hj with
  | 0, _ => exact lf_X2_0
  | 1, _ => exact lf_X2_1
  | 2, _ => exact lf_X2_2
  | 3, _ => exact lf_X2_3
  | 4, _ => exact lf_X2_4
  | 5, _ => exact lf_X2_5
  | 6, _ => exact lf_X2_6
  | j + 7, h => exact absurd h (by omega)
theorem lf_X3_0 : u_lay RX3 TX3 0 ∈ lw_tbl := lt_2 (List.mem_of_getElem? (i := 17) rfl)
theorem lf_X3_1 : u_lay RX3 TX3 1 ∈ lw_tbl := lt_2 (List.mem_of_getElem? (i := 19) rfl)
theorem lf_X3_2 : u_lay RX3 TX3 2 ∈ lw_tbl := lt_2 (List.mem_of_getElem? (i := 21) rfl)
theorem inX3 : ∀ w ∈ wsX30, w ∈ lw_tbl := by
  intro w hw
  obtain ⟨j, hj, rfl⟩ := List.mem_map.mp hw
  have hj := List.mem_range.mp hj
  match j, hj with
  | 0, _ => exact lf_X3_0
  | 1, _ => exact lf_X3_1
  | 2, _ => exact lf_X3_2
  | j + 3, h => exact absurd h (by omega)
theorem lf_X4_0 : u_lay RX4 TX4 0 ∈ lw_tbl := lt_1 (List.mem_of_getElem? (i := 194) rfl)
theorem lf_X4_1 : u_lay RX4 TX4 1 ∈ lw_tbl := lt_1 (List.mem_of_getElem? (i := 196) rfl)
theorem lf_X4_2 : u_lay RX4 TX4 2 ∈ lw_tbl := lt_1 (List.mem_of_getElem? (i := 198) rfl)
theorem lf_X4_3 : u_lay RX4 TX4 3 ∈ lw_tbl := lt_1 (List.mem_of_getElem? (i := 200) rfl)
theorem lf_X4_4 : u_lay RX4 TX4 4 ∈ lw_tbl := lt_1 (List.mem_of_getElem? (i := 202) rfl)
theorem lf_X4_5 : u_lay RX4 TX4 5 ∈ lw_tbl := lt_1 (List.mem_of_getElem? (i := 204) rfl)
theorem inX4 : ∀ w ∈ wsX40, w ∈ lw_tbl := by
  intro w hw
  obtain ⟨j, hj, rfl⟩ := List.mem_map.mp hw
  have hj := List.mem_range.mp hj
  match j, hj with
  | 0, _ => exact lf_X4_0
  | 1, _ => exact lf_X4_1
  | 2, _ => exact lf_X4_2
  | 3, _ => exact lf_X4_3
  | 4, _ => exact lf_X4_4
  | 5, _ => exact lf_X4_5
  | j + 6, h => exact absurd h (by omega)
theorem lf_X5_0 : u_lay RX5 TX5 0 ∈ lw_tbl := lt_1 (List.mem_of_getElem? (i := 136) rfl)
theorem lf_X5_1 : u_lay RX5 TX5 1 ∈ lw_tbl := lt_1 (List.mem_of_getElem? (i := 138) rfl)
theorem lf_X5_2 : u_lay RX5 TX5 2 ∈ lw_tbl := lt_1 (List.mem_of_getElem? (i := 140) rfl)
theorem lf_X5_3 : u_lay RX5 TX5 3 ∈ lw_tbl := lt_1 (List.mem_of_getElem? (i := 142) rfl)
theorem lf_X5_4 : u_lay RX5 TX5 4 ∈ lw_tbl := lt_1 (List.mem_of_getElem? (i := 144) rfl)
theorem lf_X5_5 : u_lay RX5 TX5 5 ∈ lw_tbl := lt_1 (List.mem_of_getElem? (i := 146) rfl)
theorem lf_X5_6 : u_lay RX5 TX5 6 ∈ lw_tbl := lt_1 (List.mem_of_getElem? (i := 148) rfl)
theorem lf_X5_7 : u_lay RX5 TX5 7 ∈ lw_tbl := lt_1 (List.mem_of_getElem? (i := 150) rfl)
theorem inX5 : ∀ w ∈ wsX50, w ∈ lw_tbl := by
  intro w hw
  obtain ⟨j, hj, rfl⟩ := List.mem_map.mp hw
  have hj := List.mem_range.mp hj
  match j, hj with
  | 0, _ => exact lf_X5_0
  | 1, _ => exact lf_X5_1
  | 2, _ => exact lf_X5_2
  | 3, _ => exact lf_X5_3
  | 4, _ => exact lf_X5_4
  | 5, _ => exact lf_X5_5
  | 6, _ => exact lf_X5_6
  | 7, _ => exact lf_X5_7
  | j + 8, h => exact absurd h (by omega)
theorem lf_X6_0 : u_lay RX6 TX6 0 ∈ lw_tbl := lt_2 (List.mem_of_getElem? (i := 120) rfl)
theorem lf_X6_1 : u_lay RX6 TX6 1 ∈ lw_tbl := lt_2 (List.mem_of_getElem? (i := 122) rfl)
theorem lf_X6_2 : u_lay RX6 TX6 2 ∈ lw_tbl := lt_2 (List.mem_of_getElem? (i := 124) rfl)
theorem lf_X6_3 : u_lay RX6 TX6 3 ∈ lw_tbl := lt_2 (List.mem_of_getElem? (i := 126) rfl)
theorem lf_X6_4 : u_lay RX6 TX6 4 ∈ lw_tbl := lt_2 (List.mem_of_getElem? (i := 128) rfl)
theorem lf_X6_5 : u_lay RX6 TX6 5 ∈ lw_tbl := lt_2 (List.mem_of_getElem? (i := 130) rfl)
theorem lf_X6_6 : u_lay RX6 TX6 6 ∈ lw_tbl := lt_2 (List.mem_of_getElem? (i := 132) rfl)
theorem lf_X6_7 : u_lay RX6 TX6 7 ∈ lw_tbl := lt_2 (List.mem_of_getElem? (i := 134) rfl)
theorem lf_X6_8 : u_lay RX6 TX6 8 ∈ lw_tbl := lt_2 (List.mem_of_getElem? (i := 136) rfl)
theorem lf_X6_9 : u_lay RX6 TX6 9 ∈ lw_tbl := lt_2 (List.mem_of_getElem? (i := 138) rfl)
theorem lf_X6_10 : u_lay RX6 TX6 10 ∈ lw_tbl := lt_2 (List.mem_of_getElem? (i := 140) rfl)
theorem lf_X6_11 : u_lay RX6 TX6 11 ∈ lw_tbl := lt_2 (List.mem_of_getElem? (i := 142) rfl)
theorem lf_X6_12 : u_lay RX6 TX6 12 ∈ lw_tbl := lt_2 (List.mem_of_getElem? (i := 144) rfl)
theorem inX6 : ∀ w ∈ wsX60, w ∈ lw_tbl := by
  intro w hw
  obtain ⟨j, hj, rfl⟩ := List.mem_map.mp hw
  have hj := List.mem_range.mp hj
  match j, hj with
  | 0, _ => exact lf_X6_0
  | 1, _ => exact lf_X6_1
  | 2, _ => exact lf_X6_2
  | 3, _ => exact lf_X6_3
  | 4, _ => exact lf_X6_4
  | 5, _ => exact lf_X6_5
  | 6, _ => exact lf_X6_6
  | 7, _ => exact lf_X6_7
  | 8, _ => exact lf_X6_8
  | 9, _ => exact lf_X6_9
  | 10, _ => exact lf_X6_10
  | 11, _ => exact lf_X6_11
  | 12, _ => exact lf_X6_12
  | j + 13, h => exact absurd h (by omega)
theorem lf_X7_0 : u_lay RX7 TX7 0 ∈ lw_tbl := lt_1 (List.mem_of_getElem? (i := 218) rfl)
theorem lf_X7_1 : u_lay RX7 TX7 1 ∈ lw_tbl := lt_1 (List.mem_of_getElem? (i := 220) rfl)
theorem lf_X7_2 : u_lay RX7 TX7 2 ∈ lw_tbl := lt_1 (List.mem_of_getElem? (i := 222) rfl)
theorem lf_X7_3 : u_lay RX7 TX7 3 ∈ lw_tbl := lt_1 (List.mem_of_getElem? (i := 224) rfl)
theorem lf_X7_4 : u_lay RX7 TX7 4 ∈ lw_tbl := lt_1 (List.mem_of_getElem? (i := 226) rfl)
theorem inX7 : ∀ w ∈ wsX70, w ∈ lw_tbl := by
  intro w hw
  obtain ⟨j, hj, rfl⟩ := List.mem_map.mp hw
  have hj := List.mem_range.mp hj
  match j, hj with
  | 0, _ => exact lf_X7_0
  | 1, _ => exact lf_X7_1
  | 2, _ => exact lf_X7_2
  | 3, _ => exact lf_X7_3
  | 4, _ => exact lf_X7_4
  | j + 5, h => exact absurd h (by omega)
theorem lf_X8_0 : u_lay RX8 TX8 0 ∈ lw_tbl := lt_2 (List.mem_of_getElem? (i := 59) rfl)
theorem lf_X8_1 : u_lay RX8 TX8 1 ∈ lw_tbl := lt_2 (List.mem_of_getElem? (i := 61) rfl)
theorem lf_X8_2 : u_lay RX8 TX8 2 ∈ lw_tbl := lt_2 (List.mem_of_getElem? (i := 63) rfl)
theorem lf_X8_3 : u_lay RX8 TX8 3 ∈ lw_tbl := lt_2 (List.mem_of_getElem? (i := 65) rfl)
theorem lf_X8_4 : u_lay RX8 TX8 4 ∈ lw_tbl := lt_2 (List.mem_of_getElem? (i := 67) rfl)
theorem lf_X8_5 : u_lay RX8 TX8 5 ∈ lw_tbl := lt_2 (List.mem_of_getElem? (i := 69) rfl)
theorem lf_X8_6 : u_lay RX8 TX8 6 ∈ lw_tbl := lt_2 (List.mem_of_getElem? (i := 71) rfl)
theorem lf_X8_7 : u_lay RX8 TX8 7 ∈ lw_tbl := lt_2 (List.mem_of_getElem? (i := 73) rfl)
theorem lf_X8_8 : u_lay RX8 TX8 8 ∈ lw_tbl := lt_2 (List.mem_of_getElem? (i := 75) rfl)
theorem lf_X8_9 : u_lay RX8 TX8 9 ∈ lw_tbl := lt_2 (List.mem_of_getElem? (i := 77) rfl)
theorem lf_X8_10 : u_lay RX8 TX8 10 ∈ lw_tbl := lt_2 (List.mem_of_getElem? (i := 79) rfl)
theorem lf_X8_11 : u_lay RX8 TX8 11 ∈ lw_tbl := lt_2 (List.mem_of_getElem? (i := 81) rfl)
theorem lf_X8_12 : u_lay RX8 TX8 12 ∈ lw_tbl := lt_2 (List.mem_of_getElem? (i := 83) rfl)
theorem inX8 : ∀ w ∈ wsX80, w ∈ lw_tbl := by
  intro w hw
  obtain ⟨j, hj, rfl⟩ := List.mem_map.mp hw
  have hj := List.mem_range.mp hj
  match j, hj with
  | 0, _ => exact lf_X8_0
  | 1, _ => exact lf_X8_1
  | 2, _ => exact lf_X8_2
  | 3, _ => exact lf_X8_3
  | 4, _ => exact lf_X8_4
  | 5, _ => exact lf_X8_5
  | 6, _ => exact lf_X8_6
  | 7, _ => exact lf_X8_7
  | 8, _ => exact lf_X8_8
  | 9, _ => exact lf_X8_9
  | 10, _ => exact lf_X8_10
  | 11, _ => exact lf_X8_11
  | 12, _ => exact lf_X8_12
  | j + 13, h => exact absurd h (by omega)
theorem lf_X9_0 : u_lay RX9 TX9 0 ∈ lw_tbl := lt_1 (List.mem_of_getElem? (i := 37) rfl)
theorem lf_X9_1 : u_lay RX9 TX9 1 ∈ lw_tbl := lt_1 (List.mem_of_getElem? (i := 39) rfl)
theorem inX9 : ∀ w ∈ wsX90, w ∈ lw_tbl := by
  intro w hw
  obtain ⟨j, hj, rfl⟩ := List.mem_map.mp hw
  have hj := List.mem_range.mp hj
  match j, hj with
  | 0, _ => exact lf_X9_0
  | 1, _ => exact lf_X9_1
  | j + 2, h => exact absurd h (by omega)
theorem lf_X10_0 : u_lay RX10 TX10 0 ∈ lw_tbl := lt_1 (List.mem_of_getElem? (i := 113) rfl)
theorem lf_X10_1 : u_lay RX10 TX10 1 ∈ lw_tbl := lt_1 (List.mem_of_getElem? (i := 115) rfl)
theorem lf_X10_2 : u_lay RX10 TX10 2 ∈ lw_tbl := lt_1 (List.mem_of_getElem? (i := 117) rfl)
theorem lf_X10_3 : u_lay RX10 TX10 3 ∈ lw_tbl := lt_1 (List.mem_of_getElem? (i := 119) rfl)
theorem lf_X10_4 : u_lay RX10 TX10 4 ∈ lw_tbl := lt_1 (List.mem_of_getElem? (i := 121) rfl)
theorem lf_X10_5 : u_lay RX10 TX10 5 ∈ lw_tbl := lt_1 (List.mem_of_getElem? (i := 123) rfl)
theorem inX10 : ∀ w ∈ wsX100, w ∈ lw_tbl := by
  intro w hw
  obtain ⟨j, hj, rfl⟩ := List.mem_map.mp hw
  have hj := List.mem_range.mp hj
  match j, hj with
  | 0, _ => exact lf_X10_0
  | 1, _ => exact lf_X10_1
  | 2, _ => exact lf_X10_2
  | 3, _ => exact lf_X10_3
  | 4, _ => exact lf_X10_4
  | 5, _ => exact lf_X10_5
  | j + 6, h => exact absurd h (by omega)
theorem lf_X11_0 : u_lay RX11 TX11 0 ∈ lw_tbl := lt_2 (List.mem_of_getElem? (i := 158) rfl)
theorem lf_X11_1 : u_lay RX11 TX11 1 ∈ lw_tbl := lt_2 (List.mem_of_getElem? (i := 160) rfl)
theorem lf_X11_2 : u_lay RX11 TX11 2 ∈ lw_tbl := lt_2 (List.mem_of_getElem? (i := 162) rfl)
theorem lf_X11_3 : u_lay RX11 TX11 3 ∈ lw_tbl := lt_2 (List.mem_of_getElem? (i := 164) rfl)
theorem lf_X11_4 : u_lay RX11 TX11 4 ∈ lw_tbl := lt_2 (List.mem_of_getElem? (i := 166) rfl)
theorem lf_X11_5 : u_lay RX11 TX11 5 ∈ lw_tbl := lt_2 (List.mem_of_getElem? (i := 168) rfl)
theorem lf_X11_6 : u_lay RX11 TX11 6 ∈ lw_tbl := lt_2 (List.mem_of_getElem? (i := 170) rfl)
theorem lf_X11_7 : u_lay RX11 TX11 7 ∈ lw_tbl := lt_2 (List.mem_of_getElem? (i := 172) rfl)
theorem lf_X11_8 : u_lay RX11 TX11 8 ∈ lw_tbl := lt_2 (List.mem_of_getElem? (i := 174) rfl)
theorem lf_X11_9 : u_lay RX11 TX11 9 ∈ lw_tbl := lt_2 (List.mem_of_getElem? (i := 176) rfl)
theorem lf_X11_10 : u_lay RX11 TX11 10 ∈ lw_tbl := lt_2 (List.mem_of_getElem? (i := 178) rfl)
theorem inX11 : ∀ w ∈ wsX110, w ∈ lw_tbl := by
  intro w hw
  obtain ⟨j, hj, rfl⟩ := List.mem_map.mp hw
  have hj := List.mem_range.mp hj
  match j, hj with
  | 0, _ => exact lf_X11_0
  | 1, _ => exact lf_X11_1
  | 2, _ => exact lf_X11_2
  | 3, _ => exact lf_X11_3
  | 4, _ => exact lf_X11_4
  | 5, _ => exact lf_X11_5
  | 6, _ => exact lf_X11_6
  | 7, _ => exact lf_X11_7
  | 8, _ => exact lf_X11_8
  | 9, _ => exact lf_X11_9
  | 10, _ => exact lf_X11_10
  | j + 11, h => exact absurd h (by omega)
theorem lf_X12_0 : u_lay RX12 TX12 0 ∈ lw_tbl := lt_5 (List.mem_of_getElem? (i := 238) rfl)
theorem lf_X12_1 : u_lay RX12 TX12 1 ∈ lw_tbl := lt_6 (List.mem_of_getElem? (i := 0) rfl)
theorem lf_X12_2 : u_lay RX12 TX12 2 ∈ lw_tbl := lt_6 (List.mem_of_getElem? (i := 2) rfl)
theorem lf_X12_3 : u_lay RX12 TX12 3 ∈ lw_tbl := lt_6 (List.mem_of_getElem? (i := 4) rfl)
theorem lf_X12_4 : u_lay RX12 TX12 4 ∈ lw_tbl := lt_6 (List.mem_of_getElem? (i := 6) rfl)
theorem lf_X12_5 : u_lay RX12 TX12 5 ∈ lw_tbl := lt_6 (List.mem_of_getElem? (i := 8) rfl)
theorem lf_X12_6 : u_lay RX12 TX12 6 ∈ lw_tbl := lt_6 (List.mem_of_getElem? (i := 10) rfl)
theorem lf_X12_7 : u_lay RX12 TX12 7 ∈ lw_tbl := lt_6 (List.mem_of_getElem? (i := 12) rfl)
theorem lf_X12_8 : u_lay RX12 TX12 8 ∈ lw_tbl := lt_6 (List.mem_of_getElem? (i := 14) rfl)
theorem lf_X12_9 : u_lay RX12 TX12 9 ∈ lw_tbl := lt_6 (List.mem_of_getElem? (i := 16) rfl)
theorem lf_X12_10 : u_lay RX12 TX12 10 ∈ lw_tbl := lt_6 (List.mem_of_getElem? (i := 18) rfl)
theorem lf_X12_11 : u_lay RX12 TX12 11 ∈ lw_tbl := lt_6 (List.mem_of_getElem? (i := 20) rfl)
theorem lf_X12_12 : u_lay RX12 TX12 12 ∈ lw_tbl := lt_6 (List.mem_of_getElem? (i := 22) rfl)
theorem lf_X12_13 : u_lay RX12 TX12 13 ∈ lw_tbl := lt_6 (List.mem_of_getElem? (i := 24) rfl)
theorem lf_X12_14 : u_lay RX12 TX12 14 ∈ lw_tbl := lt_6 (List.mem_of_getElem? (i := 26) rfl)
theorem lf_X12_15 : u_lay RX12 TX12 15 ∈ lw_tbl := lt_6 (List.mem_of_getElem? (i := 28) rfl)
theorem lf_X12_16 : u_lay RX12 TX12 16 ∈ lw_tbl := lt_6 (List.mem_of_getElem? (i := 30) rfl)
theorem lf_X12_17 : u_lay RX12 TX12 17 ∈ lw_tbl := lt_6 (List.mem_of_getElem? (i := 32) rfl)
theorem lf_X12_18 : u_lay RX12 TX12 18 ∈ lw_tbl := lt_6 (List.mem_of_getElem? (i := 34) rfl)
theorem lf_X12_19 : u_lay RX12 TX12 19 ∈ lw_tbl := lt_6 (List.mem_of_getElem? (i := 36) rfl)
theorem lf_X12_20 : u_lay RX12 TX12 20 ∈ lw_tbl := lt_6 (List.mem_of_getElem? (i := 38) rfl)
theorem lf_X12_21 : u_lay RX12 TX12 21 ∈ lw_tbl := lt_6 (List.mem_of_getElem? (i := 40) rfl)
theorem lf_X12_22 : u_lay RX12 TX12 22 ∈ lw_tbl := lt_6 (List.mem_of_getElem? (i := 42) rfl)
theorem lf_X12_23 : u_lay RX12 TX12 23 ∈ lw_tbl := lt_6 (List.mem_of_getElem? (i := 44) rfl)
theorem lf_X12_24 : u_lay RX12 TX12 24 ∈ lw_tbl := lt_6 (List.mem_of_getElem? (i := 46) rfl)
theorem lf_X12_25 : u_lay RX12 TX12 25 ∈ lw_tbl := lt_6 (List.mem_of_getElem? (i := 48) rfl)
theorem lf_X12_26 : u_lay RX12 TX12 26 ∈ lw_tbl := lt_6 (List.mem_of_getElem? (i := 50) rfl)
theorem lf_X12_27 : u_lay RX12 TX12 27 ∈ lw_tbl := lt_6 (List.mem_of_getElem? (i := 52) rfl)
theorem lf_X12_28 : u_lay RX12 TX12 28 ∈ lw_tbl := lt_6 (List.mem_of_getElem? (i := 54) rfl)
theorem lf_X12_29 : u_lay RX12 TX12 29 ∈ lw_tbl := lt_6 (List.mem_of_getElem? (i := 56) rfl)
theorem lf_X12_30 : u_lay RX12 TX12 30 ∈ lw_tbl := lt_6 (List.mem_of_getElem? (i := 58) rfl)
theorem lf_X12_31 : u_lay RX12 TX12 31 ∈ lw_tbl := lt_6 (List.mem_of_getElem? (i := 60) rfl)
theorem lf_X12_32 : u_lay RX12 TX12 32 ∈ lw_tbl := lt_6 (List.mem_of_getElem? (i := 62) rfl)
theorem lf_X12_33 : u_lay RX12 TX12 33 ∈ lw_tbl := lt_6 (List.mem_of_getElem? (i := 64) rfl)
theorem lf_X12_34 : u_lay RX12 TX12 34 ∈ lw_tbl := lt_6 (List.mem_of_getElem? (i := 66) rfl)
theorem lf_X12_35 : u_lay RX12 TX12 35 ∈ lw_tbl := lt_6 (List.mem_of_getElem? (i := 68) rfl)
theorem lf_X12_36 : u_lay RX12 TX12 36 ∈ lw_tbl := lt_6 (List.mem_of_getElem? (i := 70) rfl)
theorem lf_X12_37 : u_lay RX12 TX12 37 ∈ lw_tbl := lt_6 (List.mem_of_getElem? (i := 72) rfl)
theorem lf_X12_38 : u_lay RX12 TX12 38 ∈ lw_tbl := lt_6 (List.mem_of_getElem? (i := 74) rfl)
theorem lf_X12_39 : u_lay RX12 TX12 39 ∈ lw_tbl := lt_6 (List.mem_of_getElem? (i := 76) rfl)
theorem lf_X12_40 : u_lay RX12 TX12 40 ∈ lw_tbl := lt_6 (List.mem_of_getElem? (i := 78) rfl)
theorem lf_X12_41 : u_lay RX12 TX12 41 ∈ lw_tbl := lt_6 (List.mem_of_getElem? (i := 80) rfl)
theorem lf_X12_42 : u_lay RX12 TX12 42 ∈ lw_tbl := lt_6 (List.mem_of_getElem? (i := 82) rfl)
theorem lf_X12_43 : u_lay RX12 TX12 43 ∈ lw_tbl := lt_6 (List.mem_of_getElem? (i := 84) rfl)
theorem lf_X12_44 : u_lay RX12 TX12 44 ∈ lw_tbl := lt_6 (List.mem_of_getElem? (i := 86) rfl)
theorem lf_X12_45 : u_lay RX12 TX12 45 ∈ lw_tbl := lt_6 (List.mem_of_getElem? (i := 88) rfl)
theorem lf_X12_46 : u_lay RX12 TX12 46 ∈ lw_tbl := lt_6 (List.mem_of_getElem? (i := 90) rfl)
theorem lf_X12_47 : u_lay RX12 TX12 47 ∈ lw_tbl := lt_6 (List.mem_of_getElem? (i := 92) rfl)
theorem lf_X12_48 : u_lay RX12 TX12 48 ∈ lw_tbl := lt_6 (List.mem_of_getElem? (i := 94) rfl)
theorem lf_X12_49 : u_lay RX12 TX12 49 ∈ lw_tbl := lt_6 (List.mem_of_getElem? (i := 96) rfl)
theorem lf_X12_50 : u_lay RX12 TX12 50 ∈ lw_tbl := lt_6 (List.mem_of_getElem? (i := 98) rfl)
theorem lf_X12_51 : u_lay RX12 TX12 51 ∈ lw_tbl := lt_6 (List.mem_of_getElem? (i := 100) rfl)
theorem lf_X12_52 : u_lay RX12 TX12 52 ∈ lw_tbl := lt_6 (List.mem_of_getElem? (i := 102) rfl)
theorem lf_X12_53 : u_lay RX12 TX12 53 ∈ lw_tbl := lt_6 (List.mem_of_getElem? (i := 104) rfl)
theorem lf_X12_54 : u_lay RX12 TX12 54 ∈ lw_tbl := lt_6 (List.mem_of_getElem? (i := 106) rfl)
theorem lf_X12_55 : u_lay RX12 TX12 55 ∈ lw_tbl := lt_6 (List.mem_of_getElem? (i := 108) rfl)
theorem lf_X12_56 : u_lay RX12 TX12 56 ∈ lw_tbl := lt_6 (List.mem_of_getElem? (i := 110) rfl)
theorem lf_X12_57 : u_lay RX12 TX12 57 ∈ lw_tbl := lt_6 (List.mem_of_getElem? (i := 112) rfl)
theorem lf_X12_58 : u_lay RX12 TX12 58 ∈ lw_tbl := lt_6 (List.mem_of_getElem? (i := 114) rfl)
theorem lf_X12_59 : u_lay RX12 TX12 59 ∈ lw_tbl := lt_6 (List.mem_of_getElem? (i := 116) rfl)
theorem lf_X12_60 : u_lay RX12 TX12 60 ∈ lw_tbl := lt_6 (List.mem_of_getElem? (i := 118) rfl)
theorem lf_X12_61 : u_lay RX12 TX12 61 ∈ lw_tbl := lt_6 (List.mem_of_getElem? (i := 120) rfl)
theorem lf_X12_62 : u_lay RX12 TX12 62 ∈ lw_tbl := lt_6 (List.mem_of_getElem? (i := 122) rfl)
theorem lf_X12_63 : u_lay RX12 TX12 63 ∈ lw_tbl := lt_6 (List.mem_of_getElem? (i := 124) rfl)
theorem lf_X12_64 : u_lay RX12 TX12 64 ∈ lw_tbl := lt_6 (List.mem_of_getElem? (i := 126) rfl)
theorem lf_X12_65 : u_lay RX12 TX12 65 ∈ lw_tbl := lt_6 (List.mem_of_getElem? (i := 128) rfl)
theorem lf_X12_66 : u_lay RX12 TX12 66 ∈ lw_tbl := lt_6 (List.mem_of_getElem? (i := 130) rfl)
theorem lf_X12_67 : u_lay RX12 TX12 67 ∈ lw_tbl := lt_6 (List.mem_of_getElem? (i := 132) rfl)
theorem lf_X12_68 : u_lay RX12 TX12 68 ∈ lw_tbl := lt_6 (List.mem_of_getElem? (i := 134) rfl)
theorem lf_X12_69 : u_lay RX12 TX12 69 ∈ lw_tbl := lt_6 (List.mem_of_getElem? (i := 136) rfl)
theorem lf_X12_70 : u_lay RX12 TX12 70 ∈ lw_tbl := lt_6 (List.mem_of_getElem? (i := 138) rfl)
theorem lf_X12_71 : u_lay RX12 TX12 71 ∈ lw_tbl := lt_6 (List.mem_of_getElem? (i := 140) rfl)
theorem lf_X12_72 : u_lay RX12 TX12 72 ∈ lw_tbl := lt_6 (List.mem_of_getElem? (i := 142) rfl)
theorem lf_X12_73 : u_lay RX12 TX12 73 ∈ lw_tbl := lt_6 (List.mem_of_getElem? (i := 144) rfl)
theorem lf_X12_74 : u_lay RX12 TX12 74 ∈ lw_tbl := lt_6 (List.mem_of_getElem? (i := 146) rfl)
theorem lf_X12_75 : u_lay RX12 TX12 75 ∈ lw_tbl := lt_6 (List.mem_of_getElem? (i := 148) rfl)
theorem lf_X12_76 : u_lay RX12 TX12 76 ∈ lw_tbl := lt_6 (List.mem_of_getElem? (i := 150) rfl)
theorem lf_X12_77 : u_lay RX12 TX12 77 ∈ lw_tbl := lt_6 (List.mem_of_getElem? (i := 152) rfl)
theorem lf_X12_78 : u_lay RX12 TX12 78 ∈ lw_tbl := lt_6 (List.mem_of_getElem? (i := 154) rfl)
theorem lf_X12_79 : u_lay RX12 TX12 79 ∈ lw_tbl := lt_6 (List.mem_of_getElem? (i := 156) rfl)
theorem lf_X12_80 : u_lay RX12 TX12 80 ∈ lw_tbl := lt_6 (List.mem_of_getElem? (i := 158) rfl)
theorem lf_X12_81 : u_lay RX12 TX12 81 ∈ lw_tbl := lt_6 (List.mem_of_getElem? (i := 160) rfl)
theorem lf_X12_82 : u_lay RX12 TX12 82 ∈ lw_tbl := lt_6 (List.mem_of_getElem? (i := 162) rfl)
theorem lf_X12_83 : u_lay RX12 TX12 83 ∈ lw_tbl := lt_6 (List.mem_of_getElem? (i := 164) rfl)
theorem lf_X12_84 : u_lay RX12 TX12 84 ∈ lw_tbl := lt_6 (List.mem_of_getElem? (i := 166) rfl)
theorem inX12 : ∀ w ∈ wsX120, w ∈ lw_tbl := by
  intro w hw
  obtain ⟨j, hj, rfl⟩ := List.mem_map.mp hw
  have hj := List.mem_range.mp hj
  match j, hj with
  | 0, _ => exact lf_X12_0
  | 1, _ => exact lf_X12_1
  | 2, _ => exact lf_X12_2
  | 3, _ => exact lf_X12_3
  | 4, _ => exact lf_X12_4
  | 5, _ => exact lf_X12_5
  | 6, _ => exact lf_X12_6
  | 7, _ => exact lf_X12_7
  | 8, _ => exact lf_X12_8
  | 9, _ => exact lf_X12_9
  | 10, _ => exact lf_X12_10
  | 11, _ => exact lf_X12_11
  | 12, _ => exact lf_X12_12
  | 13, _ => exact lf_X12_13
  | 14, _ => exact lf_X12_14
  | 15, _ => exact lf_X12_15
  | 16, _ => exact lf_X12_16
  | 17, _ => exact lf_X12_17
  | 18, _ => exact lf_X12_18
  | 19, _ => exact lf_X12_19
  | 20, _ => exact lf_X12_20
  | 21, _ => exact lf_X12_21
  | 22, _ => exact lf_X12_22
  | 23, _ => exact lf_X12_23
  | 24, _ => exact lf_X12_24
  | 25, _ => exact lf_X12_25
  | 26, _ => exact lf_X12_26
  | 27, _ => exact lf_X12_27
  | 28, _ => exact lf_X12_28
  | 29, _ => exact lf_X12_29
  | 30, _ => exact lf_X12_30
  | 31, _ => exact lf_X12_31
  | 32, _ => exact lf_X12_32
  | 33, _ => exact lf_X12_33
  | 34, _ => exact lf_X12_34
  | 35, _ => exact lf_X12_35
  | 36, _ => exact lf_X12_36
  | 37, _ => exact lf_X12_37
  | 38, _ => exact lf_X12_38
  | 39, _ => exact lf_X12_39
  | 40, _ => exact lf_X12_40
  | 41, _ => exact lf_X12_41
  | 42, _ => exact lf_X12_42
  | 43, _ => exact lf_X12_43
  | 44, _ => exact lf_X12_44
  | 45, _ => exact lf_X12_45
  | 46, _ => exact lf_X12_46
  | 47, _ => exact lf_X12_47
  | 48, _ => exact lf_X12_48
  | 49, _ => exact lf_X12_49
  | 50, _ => exact lf_X12_50
  | 51, _ => exact lf_X12_51
  | 52, _ => exact lf_X12_52
  | 53, _ => exact lf_X12_53
  | 54, _ => exact lf_X12_54
  | 55, _ => exact lf_X12_55
  | 56, _ => exact lf_X12_56
  | 57, _ => exact lf_X12_57
  | 58, _ => exact lf_X12_58
  | 59, _ => exact lf_X12_59
  | 60, _ => exact lf_X12_60
  | 61, _ => exact lf_X12_61
  | 62, _ => exact lf_X12_62
  | 63, _ => exact lf_X12_63
  | 64, _ => exact lf_X12_64
  | 65, _ => exact lf_X12_65
  | 66, _ => exact lf_X12_66
  | 67, _ => exact lf_X12_67
  | 68, _ => exact lf_X12_68
  | 69, _ => exact lf_X12_69
  | 70, _ => exact lf_X12_70
  | 71, _ => exact lf_X12_71
  | 72, _ => exact lf_X12_72
  | 73, _ => exact lf_X12_73
  | 74, _ => exact lf_X12_74
  | 75, _ => exact lf_X12_75
  | 76, _ => exact lf_X12_76
  | 77, _ => exact lf_X12_77
  | 78, _ => exact lf_X12_78
  | 79, _ => exact lf_X12_79
  | 80, _ => exact lf_X12_80
  | 81, _ => exact lf_X12_81
  | 82, _ => exact lf_X12_82
  | 83, _ => exact lf_X12_83
  | 84, _ => exact lf_X12_84
  | j + 85, h => exact absurd h (by omega)
theorem iv_c_Text_init : ∀ w ∈ v_c_Text_init, w ∈ lw_tbl := List.forall_mem_cons.mpr ⟨lx_27, (List.forall_mem_append.mpr ⟨(List.forall_mem_cons.mpr ⟨lx_31, (List.forall_mem_cons.mpr ⟨lx_30, (List.forall_mem_cons.mpr ⟨lx_29, (List.forall_mem_cons.mpr ⟨lx_28, (List.forall_mem_cons.mpr ⟨lx_14, (fun _ h9 => absurd h9 List.not_mem_nil)⟩)⟩)⟩)⟩)⟩), inX9⟩)⟩
theorem iv_c_coder : ∀ w ∈ v_c_coder, w ∈ lw_tbl := List.forall_mem_cons.mpr ⟨lx_32, (List.forall_mem_cons.mpr ⟨lx_34, (List.forall_mem_cons.mpr ⟨lx_33, (fun _ h9 => absurd h9 List.not_mem_nil)⟩)⟩)⟩
theorem iv_c_slength : ∀ w ∈ v_c_slength, w ∈ lw_tbl := List.forall_mem_cons.mpr ⟨lx_35, (List.forall_mem_append.mpr ⟨(List.forall_mem_cons.mpr ⟨lx_36, (fun _ h9 => absurd h9 List.not_mem_nil)⟩), (List.forall_mem_append.mpr ⟨(List.forall_mem_cons.mpr ⟨lx_39, (List.forall_mem_cons.mpr ⟨lx_38, (List.forall_mem_cons.mpr ⟨lx_37, (List.forall_mem_cons.mpr ⟨lx_0, (fun _ h9 => absurd h9 List.not_mem_nil)⟩)⟩)⟩)⟩), iv_c_coder⟩)⟩)⟩
theorem iv_c_latin : ∀ w ∈ v_c_latin, w ∈ lw_tbl := List.forall_mem_cons.mpr ⟨lx_40, (List.forall_mem_cons.mpr ⟨lx_34, (List.forall_mem_cons.mpr ⟨lx_33, (fun _ h9 => absurd h9 List.not_mem_nil)⟩)⟩)⟩
theorem iv_c_pcheck : ∀ w ∈ v_c_pcheck, w ∈ lw_tbl := List.forall_mem_cons.mpr ⟨lx_41, (fun _ h9 => absurd h9 List.not_mem_nil)⟩
theorem iv_c_scheck : ∀ w ∈ v_c_scheck, w ∈ lw_tbl := List.forall_mem_cons.mpr ⟨lx_42, (List.forall_mem_append.mpr ⟨(List.forall_mem_cons.mpr ⟨lx_43, (fun _ h9 => absurd h9 List.not_mem_nil)⟩), (List.forall_mem_append.mpr ⟨(List.forall_mem_cons.mpr ⟨lx_45, (List.forall_mem_cons.mpr ⟨lx_44, (List.forall_mem_cons.mpr ⟨lx_1, (fun _ h9 => absurd h9 List.not_mem_nil)⟩)⟩)⟩), iv_c_pcheck⟩)⟩)⟩
theorem iv_c_lcharAt : ∀ w ∈ v_c_lcharAt, w ∈ lw_tbl := List.forall_mem_cons.mpr ⟨lx_46, (List.forall_mem_append.mpr ⟨(fun _ h9 => absurd h9 List.not_mem_nil), (List.forall_mem_append.mpr ⟨(List.forall_mem_cons.mpr ⟨lx_48, (List.forall_mem_cons.mpr ⟨lx_47, (List.forall_mem_cons.mpr ⟨lx_0, (fun _ h9 => absurd h9 List.not_mem_nil)⟩)⟩)⟩), iv_c_scheck⟩)⟩)⟩
theorem iv_c_scharAt : ∀ w ∈ v_c_scharAt, w ∈ lw_tbl := List.forall_mem_cons.mpr ⟨lx_49, (List.forall_mem_append.mpr ⟨(List.forall_mem_cons.mpr ⟨lx_36, (fun _ h9 => absurd h9 List.not_mem_nil)⟩), (List.forall_mem_append.mpr ⟨(List.forall_mem_append.mpr ⟨(List.forall_mem_cons.mpr ⟨lx_52, (List.forall_mem_cons.mpr ⟨lx_51, (List.forall_mem_cons.mpr ⟨lx_50, (List.forall_mem_cons.mpr ⟨lx_0, (fun _ h9 => absurd h9 List.not_mem_nil)⟩)⟩)⟩)⟩), iv_c_latin⟩), (List.forall_mem_append.mpr ⟨(List.forall_mem_cons.mpr ⟨lx_55, (List.forall_mem_cons.mpr ⟨lx_54, (List.forall_mem_cons.mpr ⟨lx_53, (fun _ h9 => absurd h9 List.not_mem_nil)⟩)⟩)⟩), iv_c_lcharAt⟩)⟩)⟩)⟩
theorem iv_c_joined : ∀ w ∈ v_c_joined, w ∈ lw_tbl := List.forall_mem_cons.mpr ⟨lx_56, (fun _ h9 => absurd h9 List.not_mem_nil)⟩
theorem iv_c_Tokens_init : ∀ w ∈ v_c_Tokens_init, w ∈ lw_tbl := List.forall_mem_cons.mpr ⟨lx_57, (List.forall_mem_append.mpr ⟨(List.forall_mem_cons.mpr ⟨lx_62, (List.forall_mem_cons.mpr ⟨lx_61, (List.forall_mem_cons.mpr ⟨lx_60, (List.forall_mem_cons.mpr ⟨lx_59, (List.forall_mem_cons.mpr ⟨lx_58, (List.forall_mem_cons.mpr ⟨lx_29, (List.forall_mem_cons.mpr ⟨lx_28, (List.forall_mem_cons.mpr ⟨lx_17, (List.forall_mem_cons.mpr ⟨lx_16, (fun _ h9 => absurd h9 List.not_mem_nil)⟩)⟩)⟩)⟩)⟩)⟩)⟩)⟩)⟩), (List.forall_mem_append.mpr ⟨(List.forall_mem_append.mpr ⟨(List.forall_mem_cons.mpr ⟨lx_65, (List.forall_mem_cons.mpr ⟨lx_64, (List.forall_mem_cons.mpr ⟨lx_63, (List.forall_mem_cons.mpr ⟨lx_0, (fun _ h9 => absurd h9 List.not_mem_nil)⟩)⟩)⟩)⟩), iv_c_slength⟩), (List.forall_mem_append.mpr ⟨(List.forall_mem_append.mpr ⟨(List.forall_mem_cons.mpr ⟨lx_68, (List.forall_mem_cons.mpr ⟨lx_67, (List.forall_mem_cons.mpr ⟨lx_66, (List.forall_mem_cons.mpr ⟨lx_0, (fun _ h9 => absurd h9 List.not_mem_nil)⟩)⟩)⟩)⟩), iv_c_scharAt⟩), (List.forall_mem_append.mpr ⟨(List.forall_mem_append.mpr ⟨(List.forall_mem_cons.mpr ⟨lx_71, (List.forall_mem_cons.mpr ⟨lx_70, (List.forall_mem_cons.mpr ⟨lx_69, (fun _ h9 => absurd h9 List.not_mem_nil)⟩)⟩)⟩), iv_c_joined⟩), inX10⟩)⟩)⟩)⟩)⟩
theorem iv_c_Parser_init : ∀ w ∈ v_c_Parser_init, w ∈ lw_tbl := List.forall_mem_cons.mpr ⟨lx_72, (List.forall_mem_append.mpr ⟨(List.forall_mem_cons.mpr ⟨lx_78, (List.forall_mem_cons.mpr ⟨lx_77, (List.forall_mem_cons.mpr ⟨lx_76, (List.forall_mem_cons.mpr ⟨lx_29, (List.forall_mem_cons.mpr ⟨lx_28, (List.forall_mem_cons.mpr ⟨lx_75, (List.forall_mem_cons.mpr ⟨lx_11, (List.forall_mem_cons.mpr ⟨lx_69, (List.forall_mem_cons.mpr ⟨lx_74, (List.forall_mem_cons.mpr ⟨lx_73, (fun _ h9 => absurd h9 List.not_mem_nil)⟩)⟩)⟩)⟩)⟩)⟩)⟩)⟩)⟩)⟩), (List.forall_mem_append.mpr ⟨iv_c_Tokens_init, (List.forall_mem_append.mpr ⟨inX10, inX5⟩)⟩)⟩)⟩
theorem iv_c_Inputs_init : ∀ w ∈ v_c_Inputs_init, w ∈ lw_tbl := List.forall_mem_cons.mpr ⟨lx_79, (List.forall_mem_append.mpr ⟨(List.forall_mem_cons.mpr ⟨lx_84, (List.forall_mem_cons.mpr ⟨lx_83, (List.forall_mem_cons.mpr ⟨lx_82, (List.forall_mem_cons.mpr ⟨lx_81, (List.forall_mem_cons.mpr ⟨lx_80, (List.forall_mem_cons.mpr ⟨lx_29, (List.forall_mem_cons.mpr ⟨lx_28, (List.forall_mem_cons.mpr ⟨lx_17, (List.forall_mem_cons.mpr ⟨lx_16, (fun _ h9 => absurd h9 List.not_mem_nil)⟩)⟩)⟩)⟩)⟩)⟩)⟩)⟩)⟩), inX2⟩)⟩
theorem iv_c_Machine_init : ∀ w ∈ v_c_Machine_init, w ∈ lw_tbl := List.forall_mem_cons.mpr ⟨lx_85, (List.forall_mem_append.mpr ⟨(List.forall_mem_cons.mpr ⟨lx_88, (List.forall_mem_cons.mpr ⟨lx_87, (List.forall_mem_cons.mpr ⟨lx_86, (List.forall_mem_cons.mpr ⟨lx_29, (List.forall_mem_cons.mpr ⟨lx_28, (List.forall_mem_cons.mpr ⟨lx_16, (fun _ h9 => absurd h9 List.not_mem_nil)⟩)⟩)⟩)⟩)⟩)⟩), inX4⟩)⟩
theorem iv_c_Slopes_init : ∀ w ∈ v_c_Slopes_init, w ∈ lw_tbl := List.forall_mem_cons.mpr ⟨lx_89, (List.forall_mem_append.mpr ⟨(List.forall_mem_cons.mpr ⟨lx_95, (List.forall_mem_cons.mpr ⟨lx_94, (List.forall_mem_cons.mpr ⟨lx_93, (List.forall_mem_cons.mpr ⟨lx_92, (List.forall_mem_cons.mpr ⟨lx_91, (List.forall_mem_cons.mpr ⟨lx_90, (List.forall_mem_cons.mpr ⟨lx_29, (List.forall_mem_cons.mpr ⟨lx_28, (List.forall_mem_cons.mpr ⟨lx_17, (List.forall_mem_cons.mpr ⟨lx_16, (List.forall_mem_cons.mpr ⟨lx_18, (fun _ h9 => absurd h9 List.not_mem_nil)⟩)⟩)⟩)⟩)⟩)⟩)⟩)⟩)⟩)⟩)⟩), inX7⟩)⟩
theorem iv_c_Grouping_init : ∀ w ∈ v_c_Grouping_init, w ∈ lw_tbl := List.forall_mem_cons.mpr ⟨lx_96, (List.forall_mem_append.mpr ⟨(List.forall_mem_cons.mpr ⟨lx_99, (List.forall_mem_cons.mpr ⟨lx_98, (List.forall_mem_cons.mpr ⟨lx_97, (List.forall_mem_cons.mpr ⟨lx_29, (List.forall_mem_cons.mpr ⟨lx_28, (List.forall_mem_cons.mpr ⟨lx_16, (fun _ h9 => absurd h9 List.not_mem_nil)⟩)⟩)⟩)⟩)⟩)⟩), inX1⟩)⟩
theorem iv_c_Keepers_init : ∀ w ∈ v_c_Keepers_init, w ∈ lw_tbl := List.forall_mem_cons.mpr ⟨lx_100, (List.forall_mem_append.mpr ⟨(List.forall_mem_cons.mpr ⟨lx_104, (List.forall_mem_cons.mpr ⟨lx_103, (List.forall_mem_cons.mpr ⟨lx_102, (List.forall_mem_cons.mpr ⟨lx_29, (List.forall_mem_cons.mpr ⟨lx_28, (List.forall_mem_cons.mpr ⟨lx_101, (List.forall_mem_cons.mpr ⟨lx_16, (fun _ h9 => absurd h9 List.not_mem_nil)⟩)⟩)⟩)⟩)⟩)⟩)⟩), inX3⟩)⟩
theorem iv_c_Tape_init : ∀ w ∈ v_c_Tape_init, w ∈ lw_tbl := List.forall_mem_cons.mpr ⟨lx_105, (List.forall_mem_append.mpr ⟨(List.forall_mem_cons.mpr ⟨lx_113, (List.forall_mem_cons.mpr ⟨lx_112, (List.forall_mem_cons.mpr ⟨lx_111, (List.forall_mem_cons.mpr ⟨lx_110, (List.forall_mem_cons.mpr ⟨lx_109, (List.forall_mem_cons.mpr ⟨lx_108, (List.forall_mem_cons.mpr ⟨lx_107, (List.forall_mem_cons.mpr ⟨lx_106, (List.forall_mem_cons.mpr ⟨lx_29, (List.forall_mem_cons.mpr ⟨lx_28, (List.forall_mem_cons.mpr ⟨lx_17, (List.forall_mem_cons.mpr ⟨lx_16, (fun _ h9 => absurd h9 List.not_mem_nil)⟩)⟩)⟩)⟩)⟩)⟩)⟩)⟩)⟩)⟩)⟩)⟩), inX8⟩)⟩
theorem iv_c_Program_init : ∀ w ∈ v_c_Program_init, w ∈ lw_tbl := List.forall_mem_cons.mpr ⟨lx_114, (List.forall_mem_append.mpr ⟨(List.forall_mem_cons.mpr ⟨lx_121, (List.forall_mem_cons.mpr ⟨lx_120, (List.forall_mem_cons.mpr ⟨lx_119, (List.forall_mem_cons.mpr ⟨lx_118, (List.forall_mem_cons.mpr ⟨lx_117, (List.forall_mem_cons.mpr ⟨lx_116, (List.forall_mem_cons.mpr ⟨lx_115, (List.forall_mem_cons.mpr ⟨lx_29, (List.forall_mem_cons.mpr ⟨lx_28, (List.forall_mem_cons.mpr ⟨lx_16, (List.forall_mem_cons.mpr ⟨lx_17, (fun _ h9 => absurd h9 List.not_mem_nil)⟩)⟩)⟩)⟩)⟩)⟩)⟩)⟩)⟩)⟩)⟩), inX6⟩)⟩
theorem iv_c_init : ∀ w ∈ v_c_init, w ∈ lw_tbl := List.forall_mem_cons.mpr ⟨lx_122, (List.forall_mem_append.mpr ⟨(List.forall_mem_cons.mpr ⟨lx_161, (List.forall_mem_cons.mpr ⟨lx_160, (List.forall_mem_cons.mpr ⟨lx_159, (List.forall_mem_cons.mpr ⟨lx_158, (List.forall_mem_cons.mpr ⟨lx_157, (List.forall_mem_cons.mpr ⟨lx_156, (List.forall_mem_cons.mpr ⟨lx_155, (List.forall_mem_cons.mpr ⟨lx_154, (List.forall_mem_cons.mpr ⟨lx_153, (List.forall_mem_cons.mpr ⟨lx_152, (List.forall_mem_cons.mpr ⟨lx_151, (List.forall_mem_cons.mpr ⟨lx_150, (List.forall_mem_cons.mpr ⟨lx_29, (List.forall_mem_cons.mpr ⟨lx_28, (List.forall_mem_cons.mpr ⟨lx_149, (List.forall_mem_cons.mpr ⟨lx_10, (List.forall_mem_cons.mpr ⟨lx_148, (List.forall_mem_cons.mpr ⟨lx_147, (List.forall_mem_cons.mpr ⟨lx_146, (List.forall_mem_cons.mpr ⟨lx_6, (List.forall_mem_cons.mpr ⟨lx_145, (List.forall_mem_cons.mpr ⟨lx_144, (List.forall_mem_cons.mpr ⟨lx_143, (List.forall_mem_cons.mpr ⟨lx_3, (List.forall_mem_cons.mpr ⟨lx_142, (List.forall_mem_cons.mpr ⟨lx_141, (List.forall_mem_cons.mpr ⟨lx_140, (List.forall_mem_cons.mpr ⟨lx_5, (List.forall_mem_cons.mpr ⟨lx_139, (List.forall_mem_cons.mpr ⟨lx_138, (List.forall_mem_cons.mpr ⟨lx_137, (List.forall_mem_cons.mpr ⟨lx_8, (List.forall_mem_cons.mpr ⟨lx_136, (List.forall_mem_cons.mpr ⟨lx_135, (List.forall_mem_cons.mpr ⟨lx_134, (List.forall_mem_cons.mpr ⟨lx_2, (List.forall_mem_cons.mpr ⟨lx_133, (List.forall_mem_cons.mpr ⟨lx_132, (List.forall_mem_cons.mpr ⟨lx_131, (List.forall_mem_cons.mpr ⟨lx_4, (List.forall_mem_cons.mpr ⟨lx_130, (List.forall_mem_cons.mpr ⟨lx_129, (List.forall_mem_cons.mpr ⟨lx_128, (List.forall_mem_cons.mpr ⟨lx_9, (List.forall_mem_cons.mpr ⟨lx_127, (List.forall_mem_cons.mpr ⟨lx_126, (List.forall_mem_cons.mpr ⟨lx_125, (List.forall_mem_cons.mpr ⟨lx_7, (List.forall_mem_cons.mpr ⟨lx_124, (List.forall_mem_cons.mpr ⟨lx_123, (fun _ h9 => absurd h9 List.not_mem_nil)⟩)⟩)⟩)⟩)⟩)⟩)⟩)⟩)⟩)⟩)⟩)⟩)⟩)⟩)⟩)⟩)⟩)⟩)⟩)⟩)⟩)⟩)⟩)⟩)⟩)⟩)⟩)⟩)⟩)⟩)⟩)⟩)⟩)⟩)⟩)⟩)⟩)⟩)⟩)⟩)⟩)⟩)⟩)⟩)⟩)⟩)⟩)⟩)⟩)⟩), (List.forall_mem_append.mpr ⟨iv_c_Text_init, (List.forall_mem_append.mpr ⟨iv_c_Parser_init, (List.forall_mem_append.mpr ⟨iv_c_Inputs_init, (List.forall_mem_append.mpr ⟨iv_c_Machine_init, (List.forall_mem_append.mpr ⟨iv_c_Slopes_init, (List.forall_mem_append.mpr ⟨iv_c_Grouping_init, (List.forall_mem_append.mpr ⟨iv_c_Keepers_init, (List.forall_mem_append.mpr ⟨iv_c_Tape_init, (List.forall_mem_append.mpr ⟨iv_c_Program_init, (List.forall_mem_append.mpr ⟨inX9, (List.forall_mem_append.mpr ⟨inX11, (List.forall_mem_append.mpr ⟨inX5, (List.forall_mem_append.mpr ⟨inX2, (List.forall_mem_append.mpr ⟨inX4, (List.forall_mem_append.mpr ⟨inX7, (List.forall_mem_append.mpr ⟨inX1, (List.forall_mem_append.mpr ⟨inX3, (List.forall_mem_append.mpr ⟨inX8, inX6⟩)⟩)⟩)⟩)⟩)⟩)⟩)⟩)⟩)⟩)⟩)⟩)⟩)⟩)⟩)⟩)⟩)⟩)⟩)⟩
theorem iv_m_init : ∀ w ∈ v_m_init, w ∈ lw_tbl := List.forall_mem_cons.mpr ⟨lx_162, (List.forall_mem_append.mpr ⟨(List.forall_mem_cons.mpr ⟨lx_221, (List.forall_mem_cons.mpr ⟨lx_220, (List.forall_mem_cons.mpr ⟨lx_219, (List.forall_mem_cons.mpr ⟨lx_218, (List.forall_mem_cons.mpr ⟨lx_217, (List.forall_mem_cons.mpr ⟨lx_216, (List.forall_mem_cons.mpr ⟨lx_215, (List.forall_mem_cons.mpr ⟨lx_214, (List.forall_mem_cons.mpr ⟨lx_213, (List.forall_mem_cons.mpr ⟨lx_212, (List.forall_mem_cons.mpr ⟨lx_211, (List.forall_mem_cons.mpr ⟨lx_210, (List.forall_mem_cons.mpr ⟨lx_209, (List.forall_mem_cons.mpr ⟨lx_208, (List.forall_mem_cons.mpr ⟨lx_207, (List.forall_mem_cons.mpr ⟨lx_206, (List.forall_mem_cons.mpr ⟨lx_205, (List.forall_mem_cons.mpr ⟨lx_204, (List.forall_mem_cons.mpr ⟨lx_203, (List.forall_mem_cons.mpr ⟨lx_202, (List.forall_mem_cons.mpr ⟨lx_201, (List.forall_mem_cons.mpr ⟨lx_200, (List.forall_mem_cons.mpr ⟨lx_199, (List.forall_mem_cons.mpr ⟨lx_198, (List.forall_mem_cons.mpr ⟨lx_197, (List.forall_mem_cons.mpr ⟨lx_196, (List.forall_mem_cons.mpr ⟨lx_195, (List.forall_mem_cons.mpr ⟨lx_194, (List.forall_mem_cons.mpr ⟨lx_193, (List.forall_mem_cons.mpr ⟨lx_192, (List.forall_mem_cons.mpr ⟨lx_191, (List.forall_mem_cons.mpr ⟨lx_190, (List.forall_mem_cons.mpr ⟨lx_189, (List.forall_mem_cons.mpr ⟨lx_188, (List.forall_mem_cons.mpr ⟨lx_187, (List.forall_mem_cons.mpr ⟨lx_186, (List.forall_mem_cons.mpr ⟨lx_185, (List.forall_mem_cons.mpr ⟨lx_184, (List.forall_mem_cons.mpr ⟨lx_183, (List.forall_mem_cons.mpr ⟨lx_182, (List.forall_mem_cons.mpr ⟨lx_181, (List.forall_mem_cons.mpr ⟨lx_180, (List.forall_mem_cons.mpr ⟨lx_179, (List.forall_mem_cons.mpr ⟨lx_178, (List.forall_mem_cons.mpr ⟨lx_177, (List.forall_mem_cons.mpr ⟨lx_176, (List.forall_mem_cons.mpr ⟨lx_175, (List.forall_mem_cons.mpr ⟨lx_174, (List.forall_mem_cons.mpr ⟨lx_173, (List.forall_mem_cons.mpr ⟨lx_172, (List.forall_mem_cons.mpr ⟨lx_171, (List.forall_mem_cons.mpr ⟨lx_170, (List.forall_mem_cons.mpr ⟨lx_169, (List.forall_mem_cons.mpr ⟨lx_168, (List.forall_mem_cons.mpr ⟨lx_167, (List.forall_mem_cons.mpr ⟨lx_166, (List.forall_mem_cons.mpr ⟨lx_165, (List.forall_mem_cons.mpr ⟨lx_164, (List.forall_mem_cons.mpr ⟨lx_163, (List.forall_mem_cons.mpr ⟨lx_29, (List.forall_mem_cons.mpr ⟨lx_28, (List.forall_mem_cons.mpr ⟨lx_16, (List.forall_mem_cons.mpr ⟨lx_15, (List.forall_mem_cons.mpr ⟨lx_17, (List.forall_mem_cons.mpr ⟨lx_18, (fun _ h9 => absurd h9 List.not_mem_nil)⟩)⟩)⟩)⟩)⟩)⟩)⟩)⟩)⟩)⟩)⟩)⟩)⟩)⟩)⟩)⟩)⟩)⟩)⟩)⟩)⟩)⟩)⟩)⟩)⟩)⟩)⟩)⟩)⟩)⟩)⟩)⟩)⟩)⟩)⟩)⟩)⟩)⟩)⟩)⟩)⟩)⟩)⟩)⟩)⟩)⟩)⟩)⟩)⟩)⟩)⟩)⟩)⟩)⟩)⟩)⟩)⟩)⟩)⟩)⟩)⟩)⟩)⟩)⟩)⟩), inX12⟩)⟩
theorem iv_c_Text_hasRoomFor : ∀ w ∈ v_c_Text_hasRoomFor, w ∈ lw_tbl := List.forall_mem_cons.mpr ⟨lx_222, (List.forall_mem_append.mpr ⟨(List.forall_mem_cons.mpr ⟨lx_223, (fun _ h9 => absurd h9 List.not_mem_nil)⟩), inX9⟩)⟩
theorem iv_c_Text_addFour : ∀ w ∈ v_c_Text_addFour, w ∈ lw_tbl := List.forall_mem_cons.mpr ⟨lx_224, (List.forall_mem_append.mpr ⟨(List.forall_mem_cons.mpr ⟨lx_223, (List.forall_mem_cons.mpr ⟨lx_31, (fun _ h9 => absurd h9 List.not_mem_nil)⟩)⟩), inX9⟩)⟩
theorem iv_c_Text_size : ∀ w ∈ v_c_Text_size, w ∈ lw_tbl := List.forall_mem_cons.mpr ⟨lx_225, (List.forall_mem_append.mpr ⟨(List.forall_mem_cons.mpr ⟨lx_223, (fun _ h9 => absurd h9 List.not_mem_nil)⟩), inX9⟩)⟩
theorem iv_c_feed : ∀ w ∈ v_c_feed, w ∈ lw_tbl := List.forall_mem_cons.mpr ⟨lx_226, (List.forall_mem_append.mpr ⟨(List.forall_mem_cons.mpr ⟨lx_161, (fun _ h9 => absurd h9 List.not_mem_nil)⟩), (List.forall_mem_append.mpr ⟨(List.forall_mem_append.mpr ⟨(List.forall_mem_cons.mpr ⟨lx_229, (List.forall_mem_cons.mpr ⟨lx_228, (List.forall_mem_cons.mpr ⟨lx_227, (List.forall_mem_cons.mpr ⟨lx_148, (fun _ h9 => absurd h9 List.not_mem_nil)⟩)⟩)⟩)⟩), iv_c_Text_hasRoomFor⟩), (List.forall_mem_append.mpr ⟨(List.forall_mem_append.mpr ⟨(List.forall_mem_cons.mpr ⟨lx_232, (List.forall_mem_cons.mpr ⟨lx_231, (List.forall_mem_cons.mpr ⟨lx_230, (List.forall_mem_cons.mpr ⟨lx_148, (fun _ h9 => absurd h9 List.not_mem_nil)⟩)⟩)⟩)⟩), iv_c_Text_addFour⟩), (List.forall_mem_append.mpr ⟨(List.forall_mem_append.mpr ⟨(List.forall_mem_cons.mpr ⟨lx_235, (List.forall_mem_cons.mpr ⟨lx_234, (List.forall_mem_cons.mpr ⟨lx_233, (List.forall_mem_cons.mpr ⟨lx_148, (fun _ h9 => absurd h9 List.not_mem_nil)⟩)⟩)⟩)⟩), iv_c_Text_size⟩), inX11⟩)⟩)⟩)⟩)⟩
theorem iv_m_feed : ∀ w ∈ v_m_feed, w ∈ lw_tbl := List.forall_mem_cons.mpr ⟨lx_236, (List.forall_mem_append.mpr ⟨(List.forall_mem_cons.mpr ⟨lx_237, (List.forall_mem_cons.mpr ⟨lx_221, (fun _ h9 => absurd h9 List.not_mem_nil)⟩)⟩), inX12⟩)⟩
theorem iv_c_Text_cutTo : ∀ w ∈ v_c_Text_cutTo, w ∈ lw_tbl := List.forall_mem_cons.mpr ⟨lx_238, (List.forall_mem_append.mpr ⟨(List.forall_mem_cons.mpr ⟨lx_223, (fun _ h9 => absurd h9 List.not_mem_nil)⟩), inX9⟩)⟩
theorem iv_c_end : ∀ w ∈ v_c_end, w ∈ lw_tbl := List.forall_mem_cons.mpr ⟨lx_239, (List.forall_mem_append.mpr ⟨(List.forall_mem_cons.mpr ⟨lx_161, (fun _ h9 => absurd h9 List.not_mem_nil)⟩), (List.forall_mem_append.mpr ⟨(List.forall_mem_append.mpr ⟨(List.forall_mem_cons.mpr ⟨lx_242, (List.forall_mem_cons.mpr ⟨lx_241, (List.forall_mem_cons.mpr ⟨lx_240, (List.forall_mem_cons.mpr ⟨lx_148, (fun _ h9 => absurd h9 List.not_mem_nil)⟩)⟩)⟩)⟩), iv_c_Text_cutTo⟩), inX11⟩)⟩)⟩
theorem iv_m_end : ∀ w ∈ v_m_end, w ∈ lw_tbl := List.forall_mem_cons.mpr ⟨lx_243, (List.forall_mem_append.mpr ⟨(List.forall_mem_cons.mpr ⟨lx_237, (fun _ h9 => absurd h9 List.not_mem_nil)⟩), inX12⟩)⟩
theorem iv_c_Tokens_cut0 : ∀ w ∈ v_c_Tokens_cut0, w ∈ lw_tbl := List.forall_mem_cons.mpr ⟨lx_244, (List.forall_mem_append.mpr ⟨(List.forall_mem_cons.mpr ⟨lx_246, (List.forall_mem_cons.mpr ⟨lx_245, (fun _ h9 => absurd h9 List.not_mem_nil)⟩)⟩), (List.forall_mem_append.mpr ⟨(List.forall_mem_append.mpr ⟨(List.forall_mem_cons.mpr ⟨lx_247, (List.forall_mem_cons.mpr ⟨lx_234, (List.forall_mem_cons.mpr ⟨lx_233, (List.forall_mem_cons.mpr ⟨lx_148, (fun _ h9 => absurd h9 List.not_mem_nil)⟩)⟩)⟩)⟩), iv_c_Text_size⟩), inX10⟩)⟩)⟩
theorem iv_c_Program_clear : ∀ w ∈ v_c_Program_clear, w ∈ lw_tbl := List.forall_mem_cons.mpr ⟨lx_248, (List.forall_mem_append.mpr ⟨(List.forall_mem_cons.mpr ⟨lx_255, (List.forall_mem_cons.mpr ⟨lx_254, (List.forall_mem_cons.mpr ⟨lx_253, (List.forall_mem_cons.mpr ⟨lx_252, (List.forall_mem_cons.mpr ⟨lx_251, (List.forall_mem_cons.mpr ⟨lx_250, (List.forall_mem_cons.mpr ⟨lx_249, (fun _ h9 => absurd h9 List.not_mem_nil)⟩)⟩)⟩)⟩)⟩)⟩)⟩), inX6⟩)⟩
theorem iv_c_Tokens_kindAt0 : ∀ w ∈ v_c_Tokens_kindAt0, w ∈ lw_tbl := List.forall_mem_cons.mpr ⟨lx_256, (List.forall_mem_append.mpr ⟨(List.forall_mem_cons.mpr ⟨lx_246, (fun _ h9 => absurd h9 List.not_mem_nil)⟩), inX10⟩)⟩
theorem iv_c_Parser_statements0 : ∀ w ∈ v_c_Parser_statements0, w ∈ lw_tbl := List.forall_mem_cons.mpr ⟨lx_257, (List.forall_mem_append.mpr ⟨(List.forall_mem_cons.mpr ⟨lx_258, (fun _ h9 => absurd h9 List.not_mem_nil)⟩), inX5⟩)⟩
theorem iv_c_Parser_read0 : ∀ w ∈ v_c_Parser_read0, w ∈ lw_tbl := List.forall_mem_cons.mpr ⟨lx_259, (List.forall_mem_append.mpr ⟨(List.forall_mem_cons.mpr ⟨lx_78, (List.forall_mem_cons.mpr ⟨lx_263, (List.forall_mem_cons.mpr ⟨lx_262, (List.forall_mem_cons.mpr ⟨lx_258, (List.forall_mem_cons.mpr ⟨lx_261, (List.forall_mem_cons.mpr ⟨lx_260, (List.forall_mem_cons.mpr ⟨lx_77, (fun _ h9 => absurd h9 List.not_mem_nil)⟩)⟩)⟩)⟩)⟩)⟩)⟩), (List.forall_mem_append.mpr ⟨(List.forall_mem_append.mpr ⟨(List.forall_mem_cons.mpr ⟨lx_266, (List.forall_mem_cons.mpr ⟨lx_265, (List.forall_mem_cons.mpr ⟨lx_264, (List.forall_mem_cons.mpr ⟨lx_69, (fun _ h9 => absurd h9 List.not_mem_nil)⟩)⟩)⟩)⟩), iv_c_Tokens_cut0⟩), (List.forall_mem_append.mpr ⟨(List.forall_mem_append.mpr ⟨(List.forall_mem_cons.mpr ⟨lx_269, (List.forall_mem_cons.mpr ⟨lx_268, (List.forall_mem_cons.mpr ⟨lx_267, (List.forall_mem_cons.mpr ⟨lx_124, (fun _ h9 => absurd h9 List.not_mem_nil)⟩)⟩)⟩)⟩), iv_c_Program_clear⟩), (List.forall_mem_append.mpr ⟨(List.forall_mem_append.mpr ⟨(List.forall_mem_cons.mpr ⟨lx_272, (List.forall_mem_cons.mpr ⟨lx_271, (List.forall_mem_cons.mpr ⟨lx_270, (List.forall_mem_cons.mpr ⟨lx_69, (fun _ h9 => absurd h9 List.not_mem_nil)⟩)⟩)⟩)⟩), iv_c_Tokens_kindAt0⟩), (List.forall_mem_append.mpr ⟨(List.forall_mem_append.mpr ⟨(List.forall_mem_cons.mpr ⟨lx_275, (List.forall_mem_cons.mpr ⟨lx_274, (List.forall_mem_cons.mpr ⟨lx_273, (List.forall_mem_cons.mpr ⟨lx_145, (fun _ h9 => absurd h9 List.not_mem_nil)⟩)⟩)⟩)⟩), iv_c_Parser_statements0⟩), inX5⟩)⟩)⟩)⟩)⟩)⟩
theorem iv_c_Inputs_begin : ∀ w ∈ v_c_Inputs_begin, w ∈ lw_tbl := List.forall_mem_cons.mpr ⟨lx_276, (List.forall_mem_append.mpr ⟨(List.forall_mem_cons.mpr ⟨lx_279, (List.forall_mem_cons.mpr ⟨lx_278, (List.forall_mem_cons.mpr ⟨lx_277, (List.forall_mem_cons.mpr ⟨lx_84, (fun _ h9 => absurd h9 List.not_mem_nil)⟩)⟩)⟩)⟩), inX2⟩)⟩
theorem iv_c_Tape_forget : ∀ w ∈ v_c_Tape_forget, w ∈ lw_tbl := List.forall_mem_cons.mpr ⟨lx_280, (List.forall_mem_append.mpr ⟨(List.forall_mem_cons.mpr ⟨lx_108, (List.forall_mem_cons.mpr ⟨lx_286, (List.forall_mem_cons.mpr ⟨lx_285, (List.forall_mem_cons.mpr ⟨lx_284, (List.forall_mem_cons.mpr ⟨lx_283, (List.forall_mem_cons.mpr ⟨lx_282, (List.forall_mem_cons.mpr ⟨lx_281, (List.forall_mem_cons.mpr ⟨lx_107, (fun _ h9 => absurd h9 List.not_mem_nil)⟩)⟩)⟩)⟩)⟩)⟩)⟩)⟩), inX8⟩)⟩
theorem iv_c_Grouping_forget : ∀ w ∈ v_c_Grouping_forget, w ∈ lw_tbl := List.forall_mem_cons.mpr ⟨lx_287, (List.forall_mem_append.mpr ⟨(List.forall_mem_cons.mpr ⟨lx_288, (fun _ h9 => absurd h9 List.not_mem_nil)⟩), inX1⟩)⟩
theorem iv_c_program0 : ∀ w ∈ v_c_program0, w ∈ lw_tbl := List.forall_mem_cons.mpr ⟨lx_289, (List.forall_mem_append.mpr ⟨(List.forall_mem_cons.mpr ⟨lx_160, (List.forall_mem_cons.mpr ⟨lx_161, (List.forall_mem_cons.mpr ⟨lx_151, (List.forall_mem_cons.mpr ⟨lx_152, (List.forall_mem_cons.mpr ⟨lx_159, (List.forall_mem_cons.mpr ⟨lx_291, (List.forall_mem_cons.mpr ⟨lx_154, (List.forall_mem_cons.mpr ⟨lx_156, (List.forall_mem_cons.mpr ⟨lx_290, (fun _ h9 => absurd h9 List.not_mem_nil)⟩)⟩)⟩)⟩)⟩)⟩)⟩)⟩)⟩), (List.forall_mem_append.mpr ⟨(List.forall_mem_append.mpr ⟨(List.forall_mem_cons.mpr ⟨lx_294, (List.forall_mem_cons.mpr ⟨lx_293, (List.forall_mem_cons.mpr ⟨lx_292, (List.forall_mem_cons.mpr ⟨lx_145, (fun _ h9 => absurd h9 List.not_mem_nil)⟩)⟩)⟩)⟩), iv_c_Parser_read0⟩), (List.forall_mem_append.mpr ⟨(List.forall_mem_append.mpr ⟨(List.forall_mem_cons.mpr ⟨lx_242, (List.forall_mem_cons.mpr ⟨lx_241, (List.forall_mem_cons.mpr ⟨lx_240, (List.forall_mem_cons.mpr ⟨lx_148, (fun _ h9 => absurd h9 List.not_mem_nil)⟩)⟩)⟩)⟩), iv_c_Text_cutTo⟩), (List.forall_mem_append.mpr ⟨(List.forall_mem_append.mpr ⟨(List.forall_mem_cons.mpr ⟨lx_297, (List.forall_mem_cons.mpr ⟨lx_296, (List.forall_mem_cons.mpr ⟨lx_295, (List.forall_mem_cons.mpr ⟨lx_142, (fun _ h9 => absurd h9 List.not_mem_nil)⟩)⟩)⟩)⟩), iv_c_Inputs_begin⟩), (List.forall_mem_append.mpr ⟨(List.forall_mem_append.mpr ⟨(List.forall_mem_cons.mpr ⟨lx_300, (List.forall_mem_cons.mpr ⟨lx_299, (List.forall_mem_cons.mpr ⟨lx_298, (List.forall_mem_cons.mpr ⟨lx_127, (fun _ h9 => absurd h9 List.not_mem_nil)⟩)⟩)⟩)⟩), iv_c_Tape_forget⟩), (List.forall_mem_append.mpr ⟨(List.forall_mem_append.mpr ⟨(List.forall_mem_cons.mpr ⟨lx_303, (List.forall_mem_cons.mpr ⟨lx_302, (List.forall_mem_cons.mpr ⟨lx_301, (List.forall_mem_cons.mpr ⟨lx_133, (fun _ h9 => absurd h9 List.not_mem_nil)⟩)⟩)⟩)⟩), iv_c_Grouping_forget⟩), (List.forall_mem_append.mpr ⟨inX11, inX6⟩)⟩)⟩)⟩)⟩)⟩)⟩)⟩
theorem iv_m_look0 : ∀ w ∈ v_m_look0, w ∈ lw_tbl := List.forall_mem_cons.mpr ⟨lx_304, (List.forall_mem_append.mpr ⟨(List.forall_mem_cons.mpr ⟨lx_306, (List.forall_mem_cons.mpr ⟨lx_305, (fun _ h9 => absurd h9 List.not_mem_nil)⟩)⟩), inX12⟩)⟩
theorem iv_m_reads0 : ∀ w ∈ v_m_reads0, w ∈ lw_tbl := List.forall_mem_cons.mpr ⟨lx_307, (List.forall_mem_append.mpr ⟨(List.forall_mem_cons.mpr ⟨lx_309, (List.forall_mem_cons.mpr ⟨lx_308, (fun _ h9 => absurd h9 List.not_mem_nil)⟩)⟩), (List.forall_mem_append.mpr ⟨(List.forall_mem_append.mpr ⟨(List.forall_mem_cons.mpr ⟨lx_312, (List.forall_mem_cons.mpr ⟨lx_311, (List.forall_mem_cons.mpr ⟨lx_310, (List.forall_mem_cons.mpr ⟨lx_24, (fun _ h9 => absurd h9 List.not_mem_nil)⟩)⟩)⟩)⟩), iv_m_look0⟩), inX12⟩)⟩)⟩
theorem iv_m_program0 : ∀ w ∈ v_m_program0, w ∈ lw_tbl := List.forall_mem_cons.mpr ⟨lx_313, (List.forall_mem_append.mpr ⟨(List.forall_mem_cons.mpr ⟨lx_237, (List.forall_mem_cons.mpr ⟨lx_305, (List.forall_mem_cons.mpr ⟨lx_306, (List.forall_mem_cons.mpr ⟨lx_323, (List.forall_mem_cons.mpr ⟨lx_309, (List.forall_mem_cons.mpr ⟨lx_322, (List.forall_mem_cons.mpr ⟨lx_205, (List.forall_mem_cons.mpr ⟨lx_321, (List.forall_mem_cons.mpr ⟨lx_320, (List.forall_mem_cons.mpr ⟨lx_308, (List.forall_mem_cons.mpr ⟨lx_319, (List.forall_mem_cons.mpr ⟨lx_318, (List.forall_mem_cons.mpr ⟨lx_220, (List.forall_mem_cons.mpr ⟨lx_204, (List.forall_mem_cons.mpr ⟨lx_201, (List.forall_mem_cons.mpr ⟨lx_193, (List.forall_mem_cons.mpr ⟨lx_192, (List.forall_mem_cons.mpr ⟨lx_317, (List.forall_mem_cons.mpr ⟨lx_316, (List.forall_mem_cons.mpr ⟨lx_315, (List.forall_mem_cons.mpr ⟨lx_314, (fun _ h9 => absurd h9 List.not_mem_nil)⟩)⟩)⟩)⟩)⟩)⟩)⟩)⟩)⟩)⟩)⟩)⟩)⟩)⟩)⟩)⟩)⟩)⟩)⟩)⟩)⟩), (List.forall_mem_append.mpr ⟨(List.forall_mem_append.mpr ⟨(List.forall_mem_cons.mpr ⟨lx_326, (List.forall_mem_cons.mpr ⟨lx_325, (List.forall_mem_cons.mpr ⟨lx_324, (List.forall_mem_cons.mpr ⟨lx_24, (fun _ h9 => absurd h9 List.not_mem_nil)⟩)⟩)⟩)⟩), iv_m_reads0⟩), inX12⟩)⟩)⟩
theorem iv_c_Parser_faultKindN : ∀ w ∈ v_c_Parser_faultKindN, w ∈ lw_tbl := List.forall_mem_cons.mpr ⟨lx_327, (List.forall_mem_append.mpr ⟨(List.forall_mem_cons.mpr ⟨lx_260, (fun _ h9 => absurd h9 List.not_mem_nil)⟩), inX5⟩)⟩
theorem iv_c_Parser_faultPlaceN : ∀ w ∈ v_c_Parser_faultPlaceN, w ∈ lw_tbl := List.forall_mem_cons.mpr ⟨lx_328, (List.forall_mem_append.mpr ⟨(List.forall_mem_cons.mpr ⟨lx_77, (fun _ h9 => absurd h9 List.not_mem_nil)⟩), inX5⟩)⟩
theorem iv_c_fault0 : ∀ w ∈ v_c_fault0, w ∈ lw_tbl := List.forall_mem_cons.mpr ⟨lx_329, (List.forall_mem_append.mpr ⟨(List.forall_mem_cons.mpr ⟨lx_160, (fun _ h9 => absurd h9 List.not_mem_nil)⟩), (List.forall_mem_append.mpr ⟨(List.forall_mem_append.mpr ⟨(List.forall_mem_cons.mpr ⟨lx_332, (List.forall_mem_cons.mpr ⟨lx_331, (List.forall_mem_cons.mpr ⟨lx_330, (List.forall_mem_cons.mpr ⟨lx_145, (fun _ h9 => absurd h9 List.not_mem_nil)⟩)⟩)⟩)⟩), iv_c_Parser_faultKindN⟩), (List.forall_mem_append.mpr ⟨(List.forall_mem_append.mpr ⟨(List.forall_mem_cons.mpr ⟨lx_335, (List.forall_mem_cons.mpr ⟨lx_334, (List.forall_mem_cons.mpr ⟨lx_333, (List.forall_mem_cons.mpr ⟨lx_145, (fun _ h9 => absurd h9 List.not_mem_nil)⟩)⟩)⟩)⟩), iv_c_Parser_faultPlaceN⟩), inX11⟩)⟩)⟩)⟩
theorem iv_m_fault : ∀ w ∈ v_m_fault, w ∈ lw_tbl := List.forall_mem_cons.mpr ⟨lx_336, (List.forall_mem_append.mpr ⟨(List.forall_mem_cons.mpr ⟨lx_220, (List.forall_mem_cons.mpr ⟨lx_318, (fun _ h9 => absurd h9 List.not_mem_nil)⟩)⟩), inX12⟩)⟩
theorem iv_c_has0 : ∀ w ∈ v_c_has0, w ∈ lw_tbl := List.forall_mem_cons.mpr ⟨lx_337, (List.forall_mem_append.mpr ⟨(List.forall_mem_cons.mpr ⟨lx_152, (List.forall_mem_cons.mpr ⟨lx_291, (List.forall_mem_cons.mpr ⟨lx_340, (List.forall_mem_cons.mpr ⟨lx_339, (List.forall_mem_cons.mpr ⟨lx_290, (List.forall_mem_cons.mpr ⟨lx_338, (fun _ h9 => absurd h9 List.not_mem_nil)⟩)⟩)⟩)⟩)⟩)⟩), (List.forall_mem_append.mpr ⟨inX11, inX6⟩)⟩)⟩
theorem iv_m_isIn : ∀ w ∈ v_m_isIn, w ∈ lw_tbl := List.forall_mem_cons.mpr ⟨lx_341, (fun _ h9 => absurd h9 List.not_mem_nil)⟩
theorem iv_m_has0 : ∀ w ∈ v_m_has0, w ∈ lw_tbl := List.forall_mem_cons.mpr ⟨lx_342, (List.forall_mem_append.mpr ⟨(List.forall_mem_cons.mpr ⟨lx_205, (List.forall_mem_cons.mpr ⟨lx_343, (fun _ h9 => absurd h9 List.not_mem_nil)⟩)⟩), (List.forall_mem_append.mpr ⟨(List.forall_mem_append.mpr ⟨(List.forall_mem_cons.mpr ⟨lx_345, (List.forall_mem_cons.mpr ⟨lx_344, (List.forall_mem_cons.mpr ⟨lx_24, (fun _ h9 => absurd h9 List.not_mem_nil)⟩)⟩)⟩), iv_m_isIn⟩), inX12⟩)⟩)⟩
theorem iv_c_Inputs_holds : ∀ w ∈ v_c_Inputs_holds, w ∈ lw_tbl := List.forall_mem_cons.mpr ⟨lx_346, (List.forall_mem_append.mpr ⟨(List.forall_mem_cons.mpr ⟨lx_279, (fun _ h9 => absurd h9 List.not_mem_nil)⟩), inX2⟩)⟩
theorem iv_c_put0 : ∀ w ∈ v_c_put0, w ∈ lw_tbl := List.forall_mem_cons.mpr ⟨lx_347, (List.forall_mem_append.mpr ⟨(List.forall_mem_cons.mpr ⟨lx_159, (fun _ h9 => absurd h9 List.not_mem_nil)⟩), (List.forall_mem_append.mpr ⟨(List.forall_mem_append.mpr ⟨(List.forall_mem_cons.mpr ⟨lx_350, (List.forall_mem_cons.mpr ⟨lx_349, (List.forall_mem_cons.mpr ⟨lx_348, (List.forall_mem_cons.mpr ⟨lx_142, (fun _ h9 => absurd h9 List.not_mem_nil)⟩)⟩)⟩)⟩), iv_c_Inputs_holds⟩), inX11⟩)⟩)⟩
theorem iv_m_put0 : ∀ w ∈ v_m_put0, w ∈ lw_tbl := List.forall_mem_cons.mpr ⟨lx_351, (List.forall_mem_append.mpr ⟨(List.forall_mem_cons.mpr ⟨lx_205, (fun _ h9 => absurd h9 List.not_mem_nil)⟩), (List.forall_mem_append.mpr ⟨(List.forall_mem_append.mpr ⟨(List.forall_mem_cons.mpr ⟨lx_345, (List.forall_mem_cons.mpr ⟨lx_344, (List.forall_mem_cons.mpr ⟨lx_24, (fun _ h9 => absurd h9 List.not_mem_nil)⟩)⟩)⟩), iv_m_isIn⟩), inX12⟩)⟩)⟩
theorem iv_c_Inputs_stepBack0 : ∀ w ∈ v_c_Inputs_stepBack0, w ∈ lw_tbl := List.forall_mem_cons.mpr ⟨lx_352, (List.forall_mem_append.mpr ⟨(List.forall_mem_cons.mpr ⟨lx_278, (fun _ h9 => absurd h9 List.not_mem_nil)⟩), inX2⟩)⟩
theorem iv_c_undo0 : ∀ w ∈ v_c_undo0, w ∈ lw_tbl := List.forall_mem_cons.mpr ⟨lx_353, (List.forall_mem_append.mpr ⟨(List.forall_mem_cons.mpr ⟨lx_159, (fun _ h9 => absurd h9 List.not_mem_nil)⟩), (List.forall_mem_append.mpr ⟨(List.forall_mem_append.mpr ⟨(List.forall_mem_cons.mpr ⟨lx_356, (List.forall_mem_cons.mpr ⟨lx_355, (List.forall_mem_cons.mpr ⟨lx_354, (List.forall_mem_cons.mpr ⟨lx_142, (fun _ h9 => absurd h9 List.not_mem_nil)⟩)⟩)⟩)⟩), iv_c_Inputs_stepBack0⟩), inX11⟩)⟩)⟩
theorem iv_m_undo0 : ∀ w ∈ v_m_undo0, w ∈ lw_tbl := List.forall_mem_cons.mpr ⟨lx_357, (List.forall_mem_append.mpr ⟨(List.forall_mem_cons.mpr ⟨lx_317, (fun _ h9 => absurd h9 List.not_mem_nil)⟩), inX12⟩)⟩
theorem iv_c_Inputs_stepOn0 : ∀ w ∈ v_c_Inputs_stepOn0, w ∈ lw_tbl := List.forall_mem_cons.mpr ⟨lx_358, (List.forall_mem_append.mpr ⟨(List.forall_mem_cons.mpr ⟨lx_278, (List.forall_mem_cons.mpr ⟨lx_277, (fun _ h9 => absurd h9 List.not_mem_nil)⟩)⟩), inX2⟩)⟩
theorem iv_c_redo0 : ∀ w ∈ v_c_redo0, w ∈ lw_tbl := List.forall_mem_cons.mpr ⟨lx_359, (List.forall_mem_append.mpr ⟨(List.forall_mem_cons.mpr ⟨lx_159, (fun _ h9 => absurd h9 List.not_mem_nil)⟩), (List.forall_mem_append.mpr ⟨(List.forall_mem_append.mpr ⟨(List.forall_mem_cons.mpr ⟨lx_362, (List.forall_mem_cons.mpr ⟨lx_361, (List.forall_mem_cons.mpr ⟨lx_360, (List.forall_mem_cons.mpr ⟨lx_142, (fun _ h9 => absurd h9 List.not_mem_nil)⟩)⟩)⟩)⟩), iv_c_Inputs_stepOn0⟩), inX11⟩)⟩)⟩
theorem iv_m_redo0 : ∀ w ∈ v_m_redo0, w ∈ lw_tbl := List.forall_mem_cons.mpr ⟨lx_363, (List.forall_mem_append.mpr ⟨(List.forall_mem_cons.mpr ⟨lx_317, (List.forall_mem_cons.mpr ⟨lx_316, (fun _ h9 => absurd h9 List.not_mem_nil)⟩)⟩), inX12⟩)⟩
theorem iv_c_Inputs_valueOf : ∀ w ∈ v_c_Inputs_valueOf, w ∈ lw_tbl := List.forall_mem_cons.mpr ⟨lx_364, (List.forall_mem_append.mpr ⟨(List.forall_mem_cons.mpr ⟨lx_84, (fun _ h9 => absurd h9 List.not_mem_nil)⟩), (List.forall_mem_append.mpr ⟨(List.forall_mem_append.mpr ⟨(List.forall_mem_cons.mpr ⟨lx_365, (List.forall_mem_cons.mpr ⟨lx_349, (List.forall_mem_cons.mpr ⟨lx_348, (List.forall_mem_cons.mpr ⟨lx_142, (fun _ h9 => absurd h9 List.not_mem_nil)⟩)⟩)⟩)⟩), iv_c_Inputs_holds⟩), inX2⟩)⟩)⟩
theorem iv_c_answer0 : ∀ w ∈ v_c_answer0, w ∈ lw_tbl := List.forall_mem_cons.mpr ⟨lx_366, (List.forall_mem_cons.mpr ⟨lx_367, (fun _ h9 => absurd h9 List.not_mem_nil)⟩)⟩
theorem iv_c_input0 : ∀ w ∈ v_c_input0, w ∈ lw_tbl := List.forall_mem_cons.mpr ⟨lx_368, (List.forall_mem_append.mpr ⟨(List.forall_mem_cons.mpr ⟨lx_159, (fun _ h9 => absurd h9 List.not_mem_nil)⟩), (List.forall_mem_append.mpr ⟨(List.forall_mem_append.mpr ⟨(List.forall_mem_cons.mpr ⟨lx_371, (List.forall_mem_cons.mpr ⟨lx_370, (List.forall_mem_cons.mpr ⟨lx_369, (List.forall_mem_cons.mpr ⟨lx_142, (fun _ h9 => absurd h9 List.not_mem_nil)⟩)⟩)⟩)⟩), iv_c_Inputs_valueOf⟩), (List.forall_mem_append.mpr ⟨(List.forall_mem_append.mpr ⟨(List.forall_mem_cons.mpr ⟨lx_373, (List.forall_mem_cons.mpr ⟨lx_372, (List.forall_mem_cons.mpr ⟨lx_20, (fun _ h9 => absurd h9 List.not_mem_nil)⟩)⟩)⟩), iv_c_answer0⟩), inX11⟩)⟩)⟩)⟩
theorem iv_m_input0 : ∀ w ∈ v_m_input0, w ∈ lw_tbl := List.forall_mem_cons.mpr ⟨lx_374, (List.forall_mem_append.mpr ⟨(List.forall_mem_cons.mpr ⟨lx_205, (List.forall_mem_cons.mpr ⟨lx_375, (fun _ h9 => absurd h9 List.not_mem_nil)⟩)⟩), (List.forall_mem_append.mpr ⟨(List.forall_mem_append.mpr ⟨(List.forall_mem_cons.mpr ⟨lx_345, (List.forall_mem_cons.mpr ⟨lx_344, (List.forall_mem_cons.mpr ⟨lx_24, (fun _ h9 => absurd h9 List.not_mem_nil)⟩)⟩)⟩), iv_m_isIn⟩), inX12⟩)⟩)⟩
theorem iv_c_Tape_zeroAt : ∀ w ∈ v_c_Tape_zeroAt, w ∈ lw_tbl := List.forall_mem_cons.mpr ⟨lx_376, (List.forall_mem_append.mpr ⟨(List.forall_mem_cons.mpr ⟨lx_286, (fun _ h9 => absurd h9 List.not_mem_nil)⟩), inX8⟩)⟩
theorem iv_c_Tape_begin0 : ∀ w ∈ v_c_Tape_begin0, w ∈ lw_tbl := List.forall_mem_cons.mpr ⟨lx_377, (List.forall_mem_append.mpr ⟨(List.forall_mem_cons.mpr ⟨lx_108, (List.forall_mem_cons.mpr ⟨lx_379, (List.forall_mem_cons.mpr ⟨lx_286, (List.forall_mem_cons.mpr ⟨lx_378, (List.forall_mem_cons.mpr ⟨lx_285, (List.forall_mem_cons.mpr ⟨lx_284, (List.forall_mem_cons.mpr ⟨lx_113, (fun _ h9 => absurd h9 List.not_mem_nil)⟩)⟩)⟩)⟩)⟩)⟩)⟩), (List.forall_mem_append.mpr ⟨(List.forall_mem_append.mpr ⟨(List.forall_mem_cons.mpr ⟨lx_380, (List.forall_mem_cons.mpr ⟨lx_299, (List.forall_mem_cons.mpr ⟨lx_298, (List.forall_mem_cons.mpr ⟨lx_127, (fun _ h9 => absurd h9 List.not_mem_nil)⟩)⟩)⟩)⟩), iv_c_Tape_forget⟩), (List.forall_mem_append.mpr ⟨(List.forall_mem_append.mpr ⟨(List.forall_mem_cons.mpr ⟨lx_383, (List.forall_mem_cons.mpr ⟨lx_382, (List.forall_mem_cons.mpr ⟨lx_381, (List.forall_mem_cons.mpr ⟨lx_127, (fun _ h9 => absurd h9 List.not_mem_nil)⟩)⟩)⟩)⟩), iv_c_Tape_zeroAt⟩), (List.forall_mem_append.mpr ⟨inX8, inX6⟩)⟩)⟩)⟩)⟩
theorem iv_c_Program_whatAt0 : ∀ w ∈ v_c_Program_whatAt0, w ∈ lw_tbl := List.forall_mem_cons.mpr ⟨lx_384, (List.forall_mem_append.mpr ⟨(List.forall_mem_cons.mpr ⟨lx_249, (fun _ h9 => absurd h9 List.not_mem_nil)⟩), inX6⟩)⟩
theorem iv_c_Program_argumentAt0 : ∀ w ∈ v_c_Program_argumentAt0, w ∈ lw_tbl := List.forall_mem_cons.mpr ⟨lx_385, (List.forall_mem_append.mpr ⟨(List.forall_mem_cons.mpr ⟨lx_249, (fun _ h9 => absurd h9 List.not_mem_nil)⟩), inX6⟩)⟩
theorem iv_c_Machine_play0 : ∀ w ∈ v_c_Machine_play0, w ∈ lw_tbl := List.forall_mem_cons.mpr ⟨lx_386, (List.forall_mem_append.mpr ⟨(List.forall_mem_cons.mpr ⟨lx_393, (List.forall_mem_cons.mpr ⟨lx_392, (List.forall_mem_cons.mpr ⟨lx_391, (List.forall_mem_cons.mpr ⟨lx_390, (List.forall_mem_cons.mpr ⟨lx_87, (List.forall_mem_cons.mpr ⟨lx_389, (List.forall_mem_cons.mpr ⟨lx_388, (List.forall_mem_cons.mpr ⟨lx_387, (fun _ h9 => absurd h9 List.not_mem_nil)⟩)⟩)⟩)⟩)⟩)⟩)⟩)⟩), (List.forall_mem_append.mpr ⟨(List.forall_mem_append.mpr ⟨(List.forall_mem_cons.mpr ⟨lx_396, (List.forall_mem_cons.mpr ⟨lx_395, (List.forall_mem_cons.mpr ⟨lx_394, (List.forall_mem_cons.mpr ⟨lx_124, (fun _ h9 => absurd h9 List.not_mem_nil)⟩)⟩)⟩)⟩), iv_c_Program_whatAt0⟩), (List.forall_mem_append.mpr ⟨(List.forall_mem_append.mpr ⟨(List.forall_mem_cons.mpr ⟨lx_399, (List.forall_mem_cons.mpr ⟨lx_398, (List.forall_mem_cons.mpr ⟨lx_397, (List.forall_mem_cons.mpr ⟨lx_124, (fun _ h9 => absurd h9 List.not_mem_nil)⟩)⟩)⟩)⟩), iv_c_Program_argumentAt0⟩), (List.forall_mem_append.mpr ⟨(List.forall_mem_append.mpr ⟨(List.forall_mem_cons.mpr ⟨lx_400, (List.forall_mem_cons.mpr ⟨lx_382, (List.forall_mem_cons.mpr ⟨lx_381, (List.forall_mem_cons.mpr ⟨lx_127, (fun _ h9 => absurd h9 List.not_mem_nil)⟩)⟩)⟩)⟩), iv_c_Tape_zeroAt⟩), (List.forall_mem_append.mpr ⟨inX4, (List.forall_mem_append.mpr ⟨inX8, inX6⟩)⟩)⟩)⟩)⟩)⟩)⟩
theorem iv_c_run0 : ∀ w ∈ v_c_run0, w ∈ lw_tbl := List.forall_mem_cons.mpr ⟨lx_401, (List.forall_mem_append.mpr ⟨(List.forall_mem_cons.mpr ⟨lx_154, (List.forall_mem_cons.mpr ⟨lx_152, (List.forall_mem_cons.mpr ⟨lx_159, (List.forall_mem_cons.mpr ⟨lx_402, (List.forall_mem_cons.mpr ⟨lx_158, (fun _ h9 => absurd h9 List.not_mem_nil)⟩)⟩)⟩)⟩)⟩), (List.forall_mem_append.mpr ⟨(List.forall_mem_append.mpr ⟨(List.forall_mem_cons.mpr ⟨lx_405, (List.forall_mem_cons.mpr ⟨lx_404, (List.forall_mem_cons.mpr ⟨lx_403, (List.forall_mem_cons.mpr ⟨lx_127, (fun _ h9 => absurd h9 List.not_mem_nil)⟩)⟩)⟩)⟩), iv_c_Tape_begin0⟩), (List.forall_mem_append.mpr ⟨(List.forall_mem_append.mpr ⟨(List.forall_mem_cons.mpr ⟨lx_408, (List.forall_mem_cons.mpr ⟨lx_407, (List.forall_mem_cons.mpr ⟨lx_406, (List.forall_mem_cons.mpr ⟨lx_139, (fun _ h9 => absurd h9 List.not_mem_nil)⟩)⟩)⟩)⟩), iv_c_Machine_play0⟩), (List.forall_mem_append.mpr ⟨inX11, inX2⟩)⟩)⟩)⟩)⟩
theorem iv_m_lays0 : ∀ w ∈ v_m_lays0, w ∈ lw_tbl := List.forall_mem_cons.mpr ⟨lx_409, (List.forall_mem_append.mpr ⟨(List.forall_mem_cons.mpr ⟨lx_179, (List.forall_mem_cons.mpr ⟨lx_184, (List.forall_mem_cons.mpr ⟨lx_183, (List.forall_mem_cons.mpr ⟨lx_182, (List.forall_mem_cons.mpr ⟨lx_181, (List.forall_mem_cons.mpr ⟨lx_180, (fun _ h9 => absurd h9 List.not_mem_nil)⟩)⟩)⟩)⟩)⟩)⟩), inX12⟩)⟩
theorem iv_m_goes0 : ∀ w ∈ v_m_goes0, w ∈ lw_tbl := List.forall_mem_cons.mpr ⟨lx_410, (List.forall_mem_append.mpr ⟨(List.forall_mem_cons.mpr ⟨lx_205, (List.forall_mem_cons.mpr ⟨lx_179, (List.forall_mem_cons.mpr ⟨lx_178, (List.forall_mem_cons.mpr ⟨lx_177, (List.forall_mem_cons.mpr ⟨lx_175, (List.forall_mem_cons.mpr ⟨lx_174, (List.forall_mem_cons.mpr ⟨lx_412, (List.forall_mem_cons.mpr ⟨lx_411, (List.forall_mem_cons.mpr ⟨lx_201, (List.forall_mem_cons.mpr ⟨lx_173, (fun _ h9 => absurd h9 List.not_mem_nil)⟩)⟩)⟩)⟩)⟩)⟩)⟩)⟩)⟩)⟩), (List.forall_mem_append.mpr ⟨(List.forall_mem_append.mpr ⟨(List.forall_mem_cons.mpr ⟨lx_415, (List.forall_mem_cons.mpr ⟨lx_414, (List.forall_mem_cons.mpr ⟨lx_413, (List.forall_mem_cons.mpr ⟨lx_24, (fun _ h9 => absurd h9 List.not_mem_nil)⟩)⟩)⟩)⟩), iv_m_lays0⟩), inX12⟩)⟩)⟩
theorem iv_m_run0 : ∀ w ∈ v_m_run0, w ∈ lw_tbl := List.forall_mem_cons.mpr ⟨lx_416, (List.forall_mem_append.mpr ⟨(List.forall_mem_cons.mpr ⟨lx_186, (List.forall_mem_cons.mpr ⟨lx_193, (List.forall_mem_cons.mpr ⟨lx_185, (List.forall_mem_cons.mpr ⟨lx_192, (List.forall_mem_cons.mpr ⟨lx_315, (List.forall_mem_cons.mpr ⟨lx_174, (fun _ h9 => absurd h9 List.not_mem_nil)⟩)⟩)⟩)⟩)⟩)⟩), (List.forall_mem_append.mpr ⟨(List.forall_mem_append.mpr ⟨(List.forall_mem_cons.mpr ⟨lx_419, (List.forall_mem_cons.mpr ⟨lx_418, (List.forall_mem_cons.mpr ⟨lx_417, (List.forall_mem_cons.mpr ⟨lx_24, (fun _ h9 => absurd h9 List.not_mem_nil)⟩)⟩)⟩)⟩), iv_m_goes0⟩), inX12⟩)⟩)⟩
theorem iv_c_ran0 : ∀ w ∈ v_c_ran0, w ∈ lw_tbl := List.forall_mem_cons.mpr ⟨lx_420, (List.forall_mem_append.mpr ⟨(List.forall_mem_cons.mpr ⟨lx_154, (List.forall_mem_cons.mpr ⟨lx_421, (fun _ h9 => absurd h9 List.not_mem_nil)⟩)⟩), (List.forall_mem_append.mpr ⟨inX11, inX8⟩)⟩)⟩
theorem iv_m_ran0 : ∀ w ∈ v_m_ran0, w ∈ lw_tbl := List.forall_mem_cons.mpr ⟨lx_422, (List.forall_mem_append.mpr ⟨(List.forall_mem_cons.mpr ⟨lx_315, (fun _ h9 => absurd h9 List.not_mem_nil)⟩), inX12⟩)⟩
theorem iv_c_Tape_hasResult : ∀ w ∈ v_c_Tape_hasResult, w ∈ lw_tbl := List.forall_mem_cons.mpr ⟨lx_423, (List.forall_mem_append.mpr ⟨(List.forall_mem_cons.mpr ⟨lx_282, (fun _ h9 => absurd h9 List.not_mem_nil)⟩), inX8⟩)⟩
theorem iv_c_Tape_resultValue0 : ∀ w ∈ v_c_Tape_resultValue0, w ∈ lw_tbl := List.forall_mem_cons.mpr ⟨lx_424, (List.forall_mem_append.mpr ⟨(fun _ h9 => absurd h9 List.not_mem_nil), (List.forall_mem_append.mpr ⟨(List.forall_mem_cons.mpr ⟨lx_427, (List.forall_mem_cons.mpr ⟨lx_426, (List.forall_mem_cons.mpr ⟨lx_425, (List.forall_mem_cons.mpr ⟨lx_127, (fun _ h9 => absurd h9 List.not_mem_nil)⟩)⟩)⟩)⟩), iv_c_Tape_hasResult⟩)⟩)⟩
theorem iv_c_result0 : ∀ w ∈ v_c_result0, w ∈ lw_tbl := List.forall_mem_cons.mpr ⟨lx_428, (List.forall_mem_append.mpr ⟨(List.forall_mem_cons.mpr ⟨lx_154, (fun _ h9 => absurd h9 List.not_mem_nil)⟩), (List.forall_mem_append.mpr ⟨(List.forall_mem_append.mpr ⟨(List.forall_mem_cons.mpr ⟨lx_431, (List.forall_mem_cons.mpr ⟨lx_430, (List.forall_mem_cons.mpr ⟨lx_429, (List.forall_mem_cons.mpr ⟨lx_127, (fun _ h9 => absurd h9 List.not_mem_nil)⟩)⟩)⟩)⟩), iv_c_Tape_resultValue0⟩), (List.forall_mem_append.mpr ⟨(List.forall_mem_append.mpr ⟨(List.forall_mem_cons.mpr ⟨lx_373, (List.forall_mem_cons.mpr ⟨lx_372, (List.forall_mem_cons.mpr ⟨lx_20, (fun _ h9 => absurd h9 List.not_mem_nil)⟩)⟩)⟩), iv_c_answer0⟩), inX11⟩)⟩)⟩)⟩
theorem iv_m_isResult0 : ∀ w ∈ v_m_isResult0, w ∈ lw_tbl := List.forall_mem_cons.mpr ⟨lx_432, (List.forall_mem_append.mpr ⟨(List.forall_mem_cons.mpr ⟨lx_315, (fun _ h9 => absurd h9 List.not_mem_nil)⟩), inX12⟩)⟩
theorem iv_m_result0 : ∀ w ∈ v_m_result0, w ∈ lw_tbl := List.forall_mem_cons.mpr ⟨lx_433, (List.forall_mem_append.mpr ⟨(List.forall_mem_cons.mpr ⟨lx_375, (fun _ h9 => absurd h9 List.not_mem_nil)⟩), (List.forall_mem_append.mpr ⟨(List.forall_mem_cons.mpr ⟨lx_436, (List.forall_mem_cons.mpr ⟨lx_435, (List.forall_mem_cons.mpr ⟨lx_434, (List.forall_mem_cons.mpr ⟨lx_24, (fun _ h9 => absurd h9 List.not_mem_nil)⟩)⟩)⟩)⟩), iv_m_isResult0⟩)⟩)⟩
theorem iv_c_near0 : ∀ w ∈ v_c_near0, w ∈ lw_tbl := List.forall_mem_cons.mpr ⟨lx_437, (List.forall_mem_append.mpr ⟨(List.forall_mem_cons.mpr ⟨lx_154, (List.forall_mem_cons.mpr ⟨lx_438, (fun _ h9 => absurd h9 List.not_mem_nil)⟩)⟩), (List.forall_mem_append.mpr ⟨(List.forall_mem_append.mpr ⟨(List.forall_mem_cons.mpr ⟨lx_373, (List.forall_mem_cons.mpr ⟨lx_372, (List.forall_mem_cons.mpr ⟨lx_20, (fun _ h9 => absurd h9 List.not_mem_nil)⟩)⟩)⟩), iv_c_answer0⟩), (List.forall_mem_append.mpr ⟨inX11, inX8⟩)⟩)⟩)⟩
theorem iv_m_near0 : ∀ w ∈ v_m_near0, w ∈ lw_tbl := List.forall_mem_cons.mpr ⟨lx_439, (List.forall_mem_append.mpr ⟨(List.forall_mem_cons.mpr ⟨lx_315, (List.forall_mem_cons.mpr ⟨lx_375, (fun _ h9 => absurd h9 List.not_mem_nil)⟩)⟩), inX12⟩)⟩
theorem iv_c_Tape_hasBoth : ∀ w ∈ v_c_Tape_hasBoth, w ∈ lw_tbl := List.forall_mem_cons.mpr ⟨lx_440, (List.forall_mem_append.mpr ⟨(List.forall_mem_cons.mpr ⟨lx_286, (fun _ h9 => absurd h9 List.not_mem_nil)⟩), (List.forall_mem_append.mpr ⟨(List.forall_mem_append.mpr ⟨(List.forall_mem_cons.mpr ⟨lx_427, (List.forall_mem_cons.mpr ⟨lx_426, (List.forall_mem_cons.mpr ⟨lx_425, (List.forall_mem_cons.mpr ⟨lx_127, (fun _ h9 => absurd h9 List.not_mem_nil)⟩)⟩)⟩)⟩), iv_c_Tape_hasResult⟩), inX8⟩)⟩)⟩
theorem iv_c_forward0 : ∀ w ∈ v_c_forward0, w ∈ lw_tbl := List.forall_mem_cons.mpr ⟨lx_441, (List.forall_mem_append.mpr ⟨(List.forall_mem_cons.mpr ⟨lx_154, (List.forall_mem_cons.mpr ⟨lx_367, (fun _ h9 => absurd h9 List.not_mem_nil)⟩)⟩), (List.forall_mem_append.mpr ⟨(List.forall_mem_append.mpr ⟨(List.forall_mem_cons.mpr ⟨lx_444, (List.forall_mem_cons.mpr ⟨lx_443, (List.forall_mem_cons.mpr ⟨lx_442, (List.forall_mem_cons.mpr ⟨lx_127, (fun _ h9 => absurd h9 List.not_mem_nil)⟩)⟩)⟩)⟩), iv_c_Tape_hasBoth⟩), inX11⟩)⟩)⟩
theorem iv_m_forward0 : ∀ w ∈ v_m_forward0, w ∈ lw_tbl := List.forall_mem_cons.mpr ⟨lx_445, (List.forall_mem_append.mpr ⟨(List.forall_mem_cons.mpr ⟨lx_375, (fun _ h9 => absurd h9 List.not_mem_nil)⟩), (List.forall_mem_append.mpr ⟨(List.forall_mem_cons.mpr ⟨lx_436, (List.forall_mem_cons.mpr ⟨lx_435, (List.forall_mem_cons.mpr ⟨lx_434, (List.forall_mem_cons.mpr ⟨lx_24, (fun _ h9 => absurd h9 List.not_mem_nil)⟩)⟩)⟩)⟩), iv_m_isResult0⟩)⟩)⟩
theorem iv_c_backward0 : ∀ w ∈ v_c_backward0, w ∈ lw_tbl := List.forall_mem_cons.mpr ⟨lx_446, (List.forall_mem_append.mpr ⟨(List.forall_mem_cons.mpr ⟨lx_154, (List.forall_mem_cons.mpr ⟨lx_367, (fun _ h9 => absurd h9 List.not_mem_nil)⟩)⟩), (List.forall_mem_append.mpr ⟨(List.forall_mem_append.mpr ⟨(List.forall_mem_cons.mpr ⟨lx_444, (List.forall_mem_cons.mpr ⟨lx_443, (List.forall_mem_cons.mpr ⟨lx_442, (List.forall_mem_cons.mpr ⟨lx_127, (fun _ h9 => absurd h9 List.not_mem_nil)⟩)⟩)⟩)⟩), iv_c_Tape_hasBoth⟩), inX11⟩)⟩)⟩
theorem iv_m_backward0 : ∀ w ∈ v_m_backward0, w ∈ lw_tbl := List.forall_mem_cons.mpr ⟨lx_447, (List.forall_mem_append.mpr ⟨(List.forall_mem_cons.mpr ⟨lx_375, (fun _ h9 => absurd h9 List.not_mem_nil)⟩), (List.forall_mem_append.mpr ⟨(List.forall_mem_cons.mpr ⟨lx_436, (List.forall_mem_cons.mpr ⟨lx_435, (List.forall_mem_cons.mpr ⟨lx_434, (List.forall_mem_cons.mpr ⟨lx_24, (fun _ h9 => absurd h9 List.not_mem_nil)⟩)⟩)⟩)⟩), iv_m_isResult0⟩)⟩)⟩
theorem iv_c_twice0 : ∀ w ∈ v_c_twice0, w ∈ lw_tbl := List.forall_mem_cons.mpr ⟨lx_448, (List.forall_mem_append.mpr ⟨(List.forall_mem_cons.mpr ⟨lx_154, (List.forall_mem_cons.mpr ⟨lx_367, (fun _ h9 => absurd h9 List.not_mem_nil)⟩)⟩), (List.forall_mem_append.mpr ⟨(List.forall_mem_append.mpr ⟨(List.forall_mem_cons.mpr ⟨lx_444, (List.forall_mem_cons.mpr ⟨lx_443, (List.forall_mem_cons.mpr ⟨lx_442, (List.forall_mem_cons.mpr ⟨lx_127, (fun _ h9 => absurd h9 List.not_mem_nil)⟩)⟩)⟩)⟩), iv_c_Tape_hasBoth⟩), inX11⟩)⟩)⟩
theorem iv_m_twice0 : ∀ w ∈ v_m_twice0, w ∈ lw_tbl := List.forall_mem_cons.mpr ⟨lx_449, (List.forall_mem_append.mpr ⟨(List.forall_mem_cons.mpr ⟨lx_375, (fun _ h9 => absurd h9 List.not_mem_nil)⟩), (List.forall_mem_append.mpr ⟨(List.forall_mem_cons.mpr ⟨lx_436, (List.forall_mem_cons.mpr ⟨lx_435, (List.forall_mem_cons.mpr ⟨lx_434, (List.forall_mem_cons.mpr ⟨lx_24, (fun _ h9 => absurd h9 List.not_mem_nil)⟩)⟩)⟩)⟩), iv_m_isResult0⟩)⟩)⟩
theorem iv_c_difference0 : ∀ w ∈ v_c_difference0, w ∈ lw_tbl := List.forall_mem_cons.mpr ⟨lx_450, (List.forall_mem_append.mpr ⟨(List.forall_mem_cons.mpr ⟨lx_154, (List.forall_mem_cons.mpr ⟨lx_367, (fun _ h9 => absurd h9 List.not_mem_nil)⟩)⟩), (List.forall_mem_append.mpr ⟨(List.forall_mem_append.mpr ⟨(List.forall_mem_cons.mpr ⟨lx_444, (List.forall_mem_cons.mpr ⟨lx_443, (List.forall_mem_cons.mpr ⟨lx_442, (List.forall_mem_cons.mpr ⟨lx_127, (fun _ h9 => absurd h9 List.not_mem_nil)⟩)⟩)⟩)⟩), iv_c_Tape_hasBoth⟩), inX11⟩)⟩)⟩
theorem iv_m_difference0 : ∀ w ∈ v_m_difference0, w ∈ lw_tbl := List.forall_mem_cons.mpr ⟨lx_451, (List.forall_mem_append.mpr ⟨(List.forall_mem_cons.mpr ⟨lx_375, (fun _ h9 => absurd h9 List.not_mem_nil)⟩), (List.forall_mem_append.mpr ⟨(List.forall_mem_cons.mpr ⟨lx_436, (List.forall_mem_cons.mpr ⟨lx_435, (List.forall_mem_cons.mpr ⟨lx_434, (List.forall_mem_cons.mpr ⟨lx_24, (fun _ h9 => absurd h9 List.not_mem_nil)⟩)⟩)⟩)⟩), iv_m_isResult0⟩)⟩)⟩
theorem iv_c_moves0 : ∀ w ∈ v_c_moves0, w ∈ lw_tbl := List.forall_mem_cons.mpr ⟨lx_452, (List.forall_mem_append.mpr ⟨(List.forall_mem_cons.mpr ⟨lx_154, (fun _ h9 => absurd h9 List.not_mem_nil)⟩), (List.forall_mem_append.mpr ⟨(List.forall_mem_append.mpr ⟨(List.forall_mem_cons.mpr ⟨lx_453, (List.forall_mem_cons.mpr ⟨lx_426, (List.forall_mem_cons.mpr ⟨lx_425, (List.forall_mem_cons.mpr ⟨lx_127, (fun _ h9 => absurd h9 List.not_mem_nil)⟩)⟩)⟩)⟩), iv_c_Tape_hasResult⟩), inX11⟩)⟩)⟩
theorem iv_m_moves0 : ∀ w ∈ v_m_moves0, w ∈ lw_tbl := List.forall_mem_cons.mpr ⟨lx_454, (List.forall_mem_append.mpr ⟨(fun _ h9 => absurd h9 List.not_mem_nil), (List.forall_mem_append.mpr ⟨(List.forall_mem_cons.mpr ⟨lx_436, (List.forall_mem_cons.mpr ⟨lx_435, (List.forall_mem_cons.mpr ⟨lx_434, (List.forall_mem_cons.mpr ⟨lx_24, (fun _ h9 => absurd h9 List.not_mem_nil)⟩)⟩)⟩)⟩), iv_m_isResult0⟩)⟩)⟩
theorem iv_c_ways0 : ∀ w ∈ v_c_ways0, w ∈ lw_tbl := List.forall_mem_cons.mpr ⟨lx_455, (List.forall_mem_append.mpr ⟨(List.forall_mem_cons.mpr ⟨lx_154, (fun _ h9 => absurd h9 List.not_mem_nil)⟩), (List.forall_mem_append.mpr ⟨(List.forall_mem_append.mpr ⟨(List.forall_mem_cons.mpr ⟨lx_444, (List.forall_mem_cons.mpr ⟨lx_443, (List.forall_mem_cons.mpr ⟨lx_442, (List.forall_mem_cons.mpr ⟨lx_127, (fun _ h9 => absurd h9 List.not_mem_nil)⟩)⟩)⟩)⟩), iv_c_Tape_hasBoth⟩), inX11⟩)⟩)⟩
theorem iv_m_ways0 : ∀ w ∈ v_m_ways0, w ∈ lw_tbl := List.forall_mem_cons.mpr ⟨lx_456, (List.forall_mem_append.mpr ⟨(fun _ h9 => absurd h9 List.not_mem_nil), (List.forall_mem_append.mpr ⟨(List.forall_mem_cons.mpr ⟨lx_436, (List.forall_mem_cons.mpr ⟨lx_435, (List.forall_mem_cons.mpr ⟨lx_434, (List.forall_mem_cons.mpr ⟨lx_24, (fun _ h9 => absurd h9 List.not_mem_nil)⟩)⟩)⟩)⟩), iv_m_isResult0⟩)⟩)⟩
theorem iv_c_groups0 : ∀ w ∈ v_c_groups0, w ∈ lw_tbl := List.forall_mem_cons.mpr ⟨lx_457, (List.forall_mem_append.mpr ⟨(List.forall_mem_cons.mpr ⟨lx_154, (List.forall_mem_cons.mpr ⟨lx_421, (fun _ h9 => absurd h9 List.not_mem_nil)⟩)⟩), (List.forall_mem_append.mpr ⟨inX11, inX8⟩)⟩)⟩
theorem iv_m_groups0 : ∀ w ∈ v_m_groups0, w ∈ lw_tbl := List.forall_mem_cons.mpr ⟨lx_458, (List.forall_mem_append.mpr ⟨(List.forall_mem_cons.mpr ⟨lx_315, (fun _ h9 => absurd h9 List.not_mem_nil)⟩), inX12⟩)⟩
theorem iv_c_Grouping_groupOf : ∀ w ∈ v_c_Grouping_groupOf, w ∈ lw_tbl := List.forall_mem_cons.mpr ⟨lx_459, (List.forall_mem_append.mpr ⟨(List.forall_mem_cons.mpr ⟨lx_288, (List.forall_mem_cons.mpr ⟨lx_99, (fun _ h9 => absurd h9 List.not_mem_nil)⟩)⟩), inX1⟩)⟩
theorem iv_c_group0 : ∀ w ∈ v_c_group0, w ∈ lw_tbl := List.forall_mem_cons.mpr ⟨lx_460, (List.forall_mem_append.mpr ⟨(List.forall_mem_cons.mpr ⟨lx_156, (fun _ h9 => absurd h9 List.not_mem_nil)⟩), (List.forall_mem_append.mpr ⟨(List.forall_mem_append.mpr ⟨(List.forall_mem_cons.mpr ⟨lx_463, (List.forall_mem_cons.mpr ⟨lx_462, (List.forall_mem_cons.mpr ⟨lx_461, (List.forall_mem_cons.mpr ⟨lx_133, (fun _ h9 => absurd h9 List.not_mem_nil)⟩)⟩)⟩)⟩), iv_c_Grouping_groupOf⟩), inX11⟩)⟩)⟩
theorem iv_m_group0 : ∀ w ∈ v_m_group0, w ∈ lw_tbl := List.forall_mem_cons.mpr ⟨lx_464, (List.forall_mem_append.mpr ⟨(List.forall_mem_cons.mpr ⟨lx_314, (fun _ h9 => absurd h9 List.not_mem_nil)⟩), inX12⟩)⟩
theorem iv_c_canBe : ∀ w ∈ v_c_canBe, w ∈ lw_tbl := List.forall_mem_cons.mpr ⟨lx_465, (fun _ h9 => absurd h9 List.not_mem_nil)⟩
theorem iv_c_fillOne : ∀ w ∈ v_c_fillOne, w ∈ lw_tbl := List.forall_mem_cons.mpr ⟨lx_466, (List.forall_mem_append.mpr ⟨(List.forall_mem_cons.mpr ⟨lx_104, (List.forall_mem_cons.mpr ⟨lx_103, (List.forall_mem_cons.mpr ⟨lx_467, (fun _ h9 => absurd h9 List.not_mem_nil)⟩)⟩)⟩), inX3⟩)⟩
theorem iv_c_fill0 : ∀ w ∈ v_c_fill0, w ∈ lw_tbl := List.forall_mem_cons.mpr ⟨lx_468, (List.forall_mem_append.mpr ⟨(List.forall_mem_cons.mpr ⟨lx_469, (List.forall_mem_cons.mpr ⟨lx_104, (fun _ h9 => absurd h9 List.not_mem_nil)⟩)⟩), (List.forall_mem_append.mpr ⟨(List.forall_mem_append.mpr ⟨(List.forall_mem_cons.mpr ⟨lx_472, (List.forall_mem_cons.mpr ⟨lx_471, (List.forall_mem_cons.mpr ⟨lx_470, (List.forall_mem_cons.mpr ⟨lx_130, (fun _ h9 => absurd h9 List.not_mem_nil)⟩)⟩)⟩)⟩), iv_c_fillOne⟩), inX3⟩)⟩)⟩
theorem iv_c_roundsAgain0 : ∀ w ∈ v_c_roundsAgain0, w ∈ lw_tbl := List.forall_mem_cons.mpr ⟨lx_473, (List.forall_mem_append.mpr ⟨(List.forall_mem_cons.mpr ⟨lx_104, (fun _ h9 => absurd h9 List.not_mem_nil)⟩), (List.forall_mem_append.mpr ⟨(List.forall_mem_append.mpr ⟨(List.forall_mem_cons.mpr ⟨lx_475, (List.forall_mem_cons.mpr ⟨lx_474, (List.forall_mem_cons.mpr ⟨lx_130, (fun _ h9 => absurd h9 List.not_mem_nil)⟩)⟩)⟩), iv_c_canBe⟩), (List.forall_mem_append.mpr ⟨(List.forall_mem_append.mpr ⟨(List.forall_mem_cons.mpr ⟨lx_478, (List.forall_mem_cons.mpr ⟨lx_477, (List.forall_mem_cons.mpr ⟨lx_476, (List.forall_mem_cons.mpr ⟨lx_130, (fun _ h9 => absurd h9 List.not_mem_nil)⟩)⟩)⟩)⟩), iv_c_fill0⟩), inX3⟩)⟩)⟩)⟩
theorem iv_c_again0 : ∀ w ∈ v_c_again0, w ∈ lw_tbl := List.forall_mem_cons.mpr ⟨lx_479, (List.forall_mem_append.mpr ⟨(List.forall_mem_cons.mpr ⟨lx_155, (fun _ h9 => absurd h9 List.not_mem_nil)⟩), (List.forall_mem_append.mpr ⟨(List.forall_mem_append.mpr ⟨(List.forall_mem_cons.mpr ⟨lx_482, (List.forall_mem_cons.mpr ⟨lx_481, (List.forall_mem_cons.mpr ⟨lx_480, (List.forall_mem_cons.mpr ⟨lx_130, (fun _ h9 => absurd h9 List.not_mem_nil)⟩)⟩)⟩)⟩), iv_c_roundsAgain0⟩), inX11⟩)⟩)⟩
theorem iv_m_worksAgain0 : ∀ w ∈ v_m_worksAgain0, w ∈ lw_tbl := List.forall_mem_cons.mpr ⟨lx_483, (List.forall_mem_append.mpr ⟨(List.forall_mem_cons.mpr ⟨lx_485, (List.forall_mem_cons.mpr ⟨lx_165, (List.forall_mem_cons.mpr ⟨lx_164, (List.forall_mem_cons.mpr ⟨lx_484, (fun _ h9 => absurd h9 List.not_mem_nil)⟩)⟩)⟩)⟩), inX12⟩)⟩
theorem iv_m_again0 : ∀ w ∈ v_m_again0, w ∈ lw_tbl := List.forall_mem_cons.mpr ⟨lx_486, (List.forall_mem_append.mpr ⟨(List.forall_mem_cons.mpr ⟨lx_165, (List.forall_mem_cons.mpr ⟨lx_488, (List.forall_mem_cons.mpr ⟨lx_487, (fun _ h9 => absurd h9 List.not_mem_nil)⟩)⟩)⟩), (List.forall_mem_append.mpr ⟨(List.forall_mem_append.mpr ⟨(List.forall_mem_cons.mpr ⟨lx_345, (List.forall_mem_cons.mpr ⟨lx_344, (List.forall_mem_cons.mpr ⟨lx_24, (fun _ h9 => absurd h9 List.not_mem_nil)⟩)⟩)⟩), iv_m_isIn⟩), (List.forall_mem_append.mpr ⟨(List.forall_mem_append.mpr ⟨(List.forall_mem_cons.mpr ⟨lx_491, (List.forall_mem_cons.mpr ⟨lx_490, (List.forall_mem_cons.mpr ⟨lx_489, (List.forall_mem_cons.mpr ⟨lx_24, (fun _ h9 => absurd h9 List.not_mem_nil)⟩)⟩)⟩)⟩), iv_m_worksAgain0⟩), inX12⟩)⟩)⟩)⟩
theorem iv_c_firstKept0 : ∀ w ∈ v_c_firstKept0, w ∈ lw_tbl := List.forall_mem_cons.mpr ⟨lx_492, (List.forall_mem_append.mpr ⟨(List.forall_mem_cons.mpr ⟨lx_103, (fun _ h9 => absurd h9 List.not_mem_nil)⟩), (List.forall_mem_append.mpr ⟨(List.forall_mem_append.mpr ⟨(List.forall_mem_cons.mpr ⟨lx_475, (List.forall_mem_cons.mpr ⟨lx_474, (List.forall_mem_cons.mpr ⟨lx_130, (fun _ h9 => absurd h9 List.not_mem_nil)⟩)⟩)⟩), iv_c_canBe⟩), (List.forall_mem_append.mpr ⟨(List.forall_mem_append.mpr ⟨(List.forall_mem_cons.mpr ⟨lx_478, (List.forall_mem_cons.mpr ⟨lx_477, (List.forall_mem_cons.mpr ⟨lx_476, (List.forall_mem_cons.mpr ⟨lx_130, (fun _ h9 => absurd h9 List.not_mem_nil)⟩)⟩)⟩)⟩), iv_c_fill0⟩), inX3⟩)⟩)⟩)⟩
theorem iv_c_first0 : ∀ w ∈ v_c_first0, w ∈ lw_tbl := List.forall_mem_cons.mpr ⟨lx_493, (List.forall_mem_append.mpr ⟨(List.forall_mem_cons.mpr ⟨lx_155, (fun _ h9 => absurd h9 List.not_mem_nil)⟩), (List.forall_mem_append.mpr ⟨(List.forall_mem_append.mpr ⟨(List.forall_mem_cons.mpr ⟨lx_496, (List.forall_mem_cons.mpr ⟨lx_495, (List.forall_mem_cons.mpr ⟨lx_494, (List.forall_mem_cons.mpr ⟨lx_130, (fun _ h9 => absurd h9 List.not_mem_nil)⟩)⟩)⟩)⟩), iv_c_firstKept0⟩), inX11⟩)⟩)⟩
theorem iv_m_first0 : ∀ w ∈ v_m_first0, w ∈ lw_tbl := List.forall_mem_cons.mpr ⟨lx_497, (List.forall_mem_append.mpr ⟨(List.forall_mem_cons.mpr ⟨lx_164, (List.forall_mem_cons.mpr ⟨lx_488, (List.forall_mem_cons.mpr ⟨lx_487, (fun _ h9 => absurd h9 List.not_mem_nil)⟩)⟩)⟩), (List.forall_mem_append.mpr ⟨(List.forall_mem_append.mpr ⟨(List.forall_mem_cons.mpr ⟨lx_345, (List.forall_mem_cons.mpr ⟨lx_344, (List.forall_mem_cons.mpr ⟨lx_24, (fun _ h9 => absurd h9 List.not_mem_nil)⟩)⟩)⟩), iv_m_isIn⟩), (List.forall_mem_append.mpr ⟨(List.forall_mem_append.mpr ⟨(List.forall_mem_cons.mpr ⟨lx_491, (List.forall_mem_cons.mpr ⟨lx_490, (List.forall_mem_cons.mpr ⟨lx_489, (List.forall_mem_cons.mpr ⟨lx_24, (fun _ h9 => absurd h9 List.not_mem_nil)⟩)⟩)⟩)⟩), iv_m_worksAgain0⟩), inX12⟩)⟩)⟩)⟩
theorem gl_0 : GoodIn lw_tbl v_c_init := goodIn_sub iv_c_init (by decide +kernel)
theorem gl_1 : GoodIn lw_tbl v_m_init := goodIn_sub iv_m_init (by decide +kernel)
theorem gl_2 : GoodIn lw_tbl (wsV RL 13 RX11 yX11_feed v_c_feed) := goodIn_sub (List.forall_mem_append.mpr ⟨(List.forall_mem_cons.mpr ⟨lx_500, (List.forall_mem_cons.mpr ⟨lx_499, (List.forall_mem_cons.mpr ⟨lx_498, (List.forall_mem_cons.mpr ⟨lx_20, (fun _ h9 => absurd h9 List.not_mem_nil)⟩)⟩)⟩)⟩), iv_c_feed⟩) (by decide +kernel)
theorem gl_3 : GoodIn lw_tbl (wsV RL 17 RX12 yX12_feed v_m_feed) := goodIn_sub (List.forall_mem_append.mpr ⟨(List.forall_mem_cons.mpr ⟨lx_503, (List.forall_mem_cons.mpr ⟨lx_502, (List.forall_mem_cons.mpr ⟨lx_501, (List.forall_mem_cons.mpr ⟨lx_24, (fun _ h9 => absurd h9 List.not_mem_nil)⟩)⟩)⟩)⟩), iv_m_feed⟩) (by decide +kernel)
theorem gl_4 : GoodIn lw_tbl (wsV RL 18 RX11 yX11_end v_c_end) := goodIn_sub (List.forall_mem_append.mpr ⟨(List.forall_mem_cons.mpr ⟨lx_506, (List.forall_mem_cons.mpr ⟨lx_505, (List.forall_mem_cons.mpr ⟨lx_504, (List.forall_mem_cons.mpr ⟨lx_20, (fun _ h9 => absurd h9 List.not_mem_nil)⟩)⟩)⟩)⟩), iv_c_end⟩) (by decide +kernel)
theorem gl_5 : GoodIn lw_tbl (wsV RL 22 RX12 yX12_end v_m_end) := goodIn_sub (List.forall_mem_append.mpr ⟨(List.forall_mem_cons.mpr ⟨lx_509, (List.forall_mem_cons.mpr ⟨lx_508, (List.forall_mem_cons.mpr ⟨lx_507, (List.forall_mem_cons.mpr ⟨lx_24, (fun _ h9 => absurd h9 List.not_mem_nil)⟩)⟩)⟩)⟩), iv_m_end⟩) (by decide +kernel)
theorem gl_6 : GoodIn lw_tbl (wsV RL 23 RX11 yX11_program v_c_program0) := goodIn_sub (List.forall_mem_append.mpr ⟨(List.forall_mem_cons.mpr ⟨lx_512, (List.forall_mem_cons.mpr ⟨lx_511, (List.forall_mem_cons.mpr ⟨lx_510, (List.forall_mem_cons.mpr ⟨lx_20, (fun _ h9 => absurd h9 List.not_mem_nil)⟩)⟩)⟩)⟩), iv_c_program0⟩) (by decide +kernel)
theorem gl_7 : GoodIn lw_tbl (wsV RL 27 RX12 yX12_program v_m_program0) := goodIn_sub (List.forall_mem_append.mpr ⟨(List.forall_mem_cons.mpr ⟨lx_515, (List.forall_mem_cons.mpr ⟨lx_514, (List.forall_mem_cons.mpr ⟨lx_513, (List.forall_mem_cons.mpr ⟨lx_24, (fun _ h9 => absurd h9 List.not_mem_nil)⟩)⟩)⟩)⟩), iv_m_program0⟩) (by decide +kernel)
theorem gl_8 : GoodIn lw_tbl (wsV RL 28 RX11 yX11_fault v_c_fault0) := goodIn_sub (List.forall_mem_append.mpr ⟨(List.forall_mem_cons.mpr ⟨lx_518, (List.forall_mem_cons.mpr ⟨lx_517, (List.forall_mem_cons.mpr ⟨lx_516, (List.forall_mem_cons.mpr ⟨lx_20, (fun _ h9 => absurd h9 List.not_mem_nil)⟩)⟩)⟩)⟩), iv_c_fault0⟩) (by decide +kernel)
theorem gl_9 : GoodIn lw_tbl (wsV RL 32 RX12 yX12_fault v_m_fault) := goodIn_sub (List.forall_mem_append.mpr ⟨(List.forall_mem_cons.mpr ⟨lx_521, (List.forall_mem_cons.mpr ⟨lx_520, (List.forall_mem_cons.mpr ⟨lx_519, (List.forall_mem_cons.mpr ⟨lx_24, (fun _ h9 => absurd h9 List.not_mem_nil)⟩)⟩)⟩)⟩), iv_m_fault⟩) (by decide +kernel)
theorem gl_10 : GoodIn lw_tbl (wsV RL 33 RX11 yX11_has v_c_has0) := goodIn_sub (List.forall_mem_append.mpr ⟨(List.forall_mem_cons.mpr ⟨lx_524, (List.forall_mem_cons.mpr ⟨lx_523, (List.forall_mem_cons.mpr ⟨lx_522, (List.forall_mem_cons.mpr ⟨lx_20, (fun _ h9 => absurd h9 List.not_mem_nil)⟩)⟩)⟩)⟩), iv_c_has0⟩) (by decide +kernel)
theorem gl_11 : GoodIn lw_tbl (wsV RL 36 RX12 yX12_has v_m_has0) := goodIn_sub (List.forall_mem_append.mpr ⟨(List.forall_mem_cons.mpr ⟨lx_527, (List.forall_mem_cons.mpr ⟨lx_526, (List.forall_mem_cons.mpr ⟨lx_525, (List.forall_mem_cons.mpr ⟨lx_24, (fun _ h9 => absurd h9 List.not_mem_nil)⟩)⟩)⟩)⟩), iv_m_has0⟩) (by decide +kernel)
theorem gl_12 : GoodIn lw_tbl (wsV RL 37 RX11 yX11_put v_c_put0) := goodIn_sub (List.forall_mem_append.mpr ⟨(List.forall_mem_cons.mpr ⟨lx_530, (List.forall_mem_cons.mpr ⟨lx_529, (List.forall_mem_cons.mpr ⟨lx_528, (List.forall_mem_cons.mpr ⟨lx_20, (fun _ h9 => absurd h9 List.not_mem_nil)⟩)⟩)⟩)⟩), iv_c_put0⟩) (by decide +kernel)
theorem gl_13 : GoodIn lw_tbl (wsV RL 41 RX12 yX12_put v_m_put0) := goodIn_sub (List.forall_mem_append.mpr ⟨(List.forall_mem_cons.mpr ⟨lx_533, (List.forall_mem_cons.mpr ⟨lx_532, (List.forall_mem_cons.mpr ⟨lx_531, (List.forall_mem_cons.mpr ⟨lx_24, (fun _ h9 => absurd h9 List.not_mem_nil)⟩)⟩)⟩)⟩), iv_m_put0⟩) (by decide +kernel)
theorem gl_14 : GoodIn lw_tbl (wsV RL 42 RX11 yX11_undo v_c_undo0) := goodIn_sub (List.forall_mem_append.mpr ⟨(List.forall_mem_cons.mpr ⟨lx_536, (List.forall_mem_cons.mpr ⟨lx_535, (List.forall_mem_cons.mpr ⟨lx_534, (List.forall_mem_cons.mpr ⟨lx_20, (fun _ h9 => absurd h9 List.not_mem_nil)⟩)⟩)⟩)⟩), iv_c_undo0⟩) (by decide +kernel)
theorem gl_15 : GoodIn lw_tbl (wsV RL 46 RX12 yX12_undo v_m_undo0) := goodIn_sub (List.forall_mem_append.mpr ⟨(List.forall_mem_cons.mpr ⟨lx_539, (List.forall_mem_cons.mpr ⟨lx_538, (List.forall_mem_cons.mpr ⟨lx_537, (List.forall_mem_cons.mpr ⟨lx_24, (fun _ h9 => absurd h9 List.not_mem_nil)⟩)⟩)⟩)⟩), iv_m_undo0⟩) (by decide +kernel)
theorem gl_16 : GoodIn lw_tbl (wsV RL 47 RX11 yX11_redo v_c_redo0) := goodIn_sub (List.forall_mem_append.mpr ⟨(List.forall_mem_cons.mpr ⟨lx_542, (List.forall_mem_cons.mpr ⟨lx_541, (List.forall_mem_cons.mpr ⟨lx_540, (List.forall_mem_cons.mpr ⟨lx_20, (fun _ h9 => absurd h9 List.not_mem_nil)⟩)⟩)⟩)⟩), iv_c_redo0⟩) (by decide +kernel)
theorem gl_17 : GoodIn lw_tbl (wsV RL 50 RX12 yX12_redo v_m_redo0) := goodIn_sub (List.forall_mem_append.mpr ⟨(List.forall_mem_cons.mpr ⟨lx_545, (List.forall_mem_cons.mpr ⟨lx_544, (List.forall_mem_cons.mpr ⟨lx_543, (List.forall_mem_cons.mpr ⟨lx_24, (fun _ h9 => absurd h9 List.not_mem_nil)⟩)⟩)⟩)⟩), iv_m_redo0⟩) (by decide +kernel)
theorem gl_18 : GoodIn lw_tbl (wsV RL 51 RX11 yX11_input v_c_input0) := goodIn_sub (List.forall_mem_append.mpr ⟨(List.forall_mem_cons.mpr ⟨lx_548, (List.forall_mem_cons.mpr ⟨lx_547, (List.forall_mem_cons.mpr ⟨lx_546, (List.forall_mem_cons.mpr ⟨lx_20, (fun _ h9 => absurd h9 List.not_mem_nil)⟩)⟩)⟩)⟩), iv_c_input0⟩) (by decide +kernel)
theorem gl_19 : GoodIn lw_tbl (wsV RL 55 RX12 yX12_input v_m_input0) := goodIn_sub (List.forall_mem_append.mpr ⟨(List.forall_mem_cons.mpr ⟨lx_551, (List.forall_mem_cons.mpr ⟨lx_550, (List.forall_mem_cons.mpr ⟨lx_549, (List.forall_mem_cons.mpr ⟨lx_24, (fun _ h9 => absurd h9 List.not_mem_nil)⟩)⟩)⟩)⟩), iv_m_input0⟩) (by decide +kernel)
theorem gl_20 : GoodIn lw_tbl (wsV RL 56 RX11 yX11_run v_c_run0) := goodIn_sub (List.forall_mem_append.mpr ⟨(List.forall_mem_cons.mpr ⟨lx_554, (List.forall_mem_cons.mpr ⟨lx_553, (List.forall_mem_cons.mpr ⟨lx_552, (List.forall_mem_cons.mpr ⟨lx_20, (fun _ h9 => absurd h9 List.not_mem_nil)⟩)⟩)⟩)⟩), iv_c_run0⟩) (by decide +kernel)
theorem gl_21 : GoodIn lw_tbl (wsV RL 59 RX12 yX12_run v_m_run0) := goodIn_sub (List.forall_mem_append.mpr ⟨(List.forall_mem_cons.mpr ⟨lx_557, (List.forall_mem_cons.mpr ⟨lx_556, (List.forall_mem_cons.mpr ⟨lx_555, (List.forall_mem_cons.mpr ⟨lx_24, (fun _ h9 => absurd h9 List.not_mem_nil)⟩)⟩)⟩)⟩), iv_m_run0⟩) (by decide +kernel)
theorem gl_22 : GoodIn lw_tbl (wsV RL 60 RX11 yX11_ran v_c_ran0) := goodIn_sub (List.forall_mem_append.mpr ⟨(List.forall_mem_cons.mpr ⟨lx_560, (List.forall_mem_cons.mpr ⟨lx_559, (List.forall_mem_cons.mpr ⟨lx_558, (List.forall_mem_cons.mpr ⟨lx_20, (fun _ h9 => absurd h9 List.not_mem_nil)⟩)⟩)⟩)⟩), iv_c_ran0⟩) (by decide +kernel)
theorem gl_23 : GoodIn lw_tbl (wsV RL 63 RX12 yX12_ran v_m_ran0) := goodIn_sub (List.forall_mem_append.mpr ⟨(List.forall_mem_cons.mpr ⟨lx_563, (List.forall_mem_cons.mpr ⟨lx_562, (List.forall_mem_cons.mpr ⟨lx_561, (List.forall_mem_cons.mpr ⟨lx_24, (fun _ h9 => absurd h9 List.not_mem_nil)⟩)⟩)⟩)⟩), iv_m_ran0⟩) (by decide +kernel)
theorem gl_24 : GoodIn lw_tbl (wsV RL 64 RX11 yX11_result v_c_result0) := goodIn_sub (List.forall_mem_append.mpr ⟨(List.forall_mem_cons.mpr ⟨lx_566, (List.forall_mem_cons.mpr ⟨lx_565, (List.forall_mem_cons.mpr ⟨lx_564, (List.forall_mem_cons.mpr ⟨lx_20, (fun _ h9 => absurd h9 List.not_mem_nil)⟩)⟩)⟩)⟩), iv_c_result0⟩) (by decide +kernel)
theorem gl_25 : GoodIn lw_tbl (wsV RL 67 RX12 yX12_result v_m_result0) := goodIn_sub (List.forall_mem_append.mpr ⟨(List.forall_mem_cons.mpr ⟨lx_569, (List.forall_mem_cons.mpr ⟨lx_568, (List.forall_mem_cons.mpr ⟨lx_567, (List.forall_mem_cons.mpr ⟨lx_24, (fun _ h9 => absurd h9 List.not_mem_nil)⟩)⟩)⟩)⟩), iv_m_result0⟩) (by decide +kernel)
theorem gl_26 : GoodIn lw_tbl (wsV RL 68 RX11 yX11_near v_c_near0) := goodIn_sub (List.forall_mem_append.mpr ⟨(List.forall_mem_cons.mpr ⟨lx_572, (List.forall_mem_cons.mpr ⟨lx_571, (List.forall_mem_cons.mpr ⟨lx_570, (List.forall_mem_cons.mpr ⟨lx_20, (fun _ h9 => absurd h9 List.not_mem_nil)⟩)⟩)⟩)⟩), iv_c_near0⟩) (by decide +kernel)
theorem gl_27 : GoodIn lw_tbl (wsV RL 72 RX12 yX12_near v_m_near0) := goodIn_sub (List.forall_mem_append.mpr ⟨(List.forall_mem_cons.mpr ⟨lx_575, (List.forall_mem_cons.mpr ⟨lx_574, (List.forall_mem_cons.mpr ⟨lx_573, (List.forall_mem_cons.mpr ⟨lx_24, (fun _ h9 => absurd h9 List.not_mem_nil)⟩)⟩)⟩)⟩), iv_m_near0⟩) (by decide +kernel)
theorem gl_28 : GoodIn lw_tbl (wsV RL 73 RX11 yX11_forward v_c_forward0) := goodIn_sub (List.forall_mem_append.mpr ⟨(List.forall_mem_cons.mpr ⟨lx_578, (List.forall_mem_cons.mpr ⟨lx_577, (List.forall_mem_cons.mpr ⟨lx_576, (List.forall_mem_cons.mpr ⟨lx_20, (fun _ h9 => absurd h9 List.not_mem_nil)⟩)⟩)⟩)⟩), iv_c_forward0⟩) (by decide +kernel)
theorem gl_29 : GoodIn lw_tbl (wsV RL 77 RX12 yX12_forward v_m_forward0) := goodIn_sub (List.forall_mem_append.mpr ⟨(List.forall_mem_cons.mpr ⟨lx_581, (List.forall_mem_cons.mpr ⟨lx_580, (List.forall_mem_cons.mpr ⟨lx_579, (List.forall_mem_cons.mpr ⟨lx_24, (fun _ h9 => absurd h9 List.not_mem_nil)⟩)⟩)⟩)⟩), iv_m_forward0⟩) (by decide +kernel)
theorem gl_30 : GoodIn lw_tbl (wsV RL 78 RX11 yX11_backward v_c_backward0) := goodIn_sub (List.forall_mem_append.mpr ⟨(List.forall_mem_cons.mpr ⟨lx_584, (List.forall_mem_cons.mpr ⟨lx_583, (List.forall_mem_cons.mpr ⟨lx_582, (List.forall_mem_cons.mpr ⟨lx_20, (fun _ h9 => absurd h9 List.not_mem_nil)⟩)⟩)⟩)⟩), iv_c_backward0⟩) (by decide +kernel)
theorem gl_31 : GoodIn lw_tbl (wsV RL 81 RX12 yX12_backward v_m_backward0) := goodIn_sub (List.forall_mem_append.mpr ⟨(List.forall_mem_cons.mpr ⟨lx_587, (List.forall_mem_cons.mpr ⟨lx_586, (List.forall_mem_cons.mpr ⟨lx_585, (List.forall_mem_cons.mpr ⟨lx_24, (fun _ h9 => absurd h9 List.not_mem_nil)⟩)⟩)⟩)⟩), iv_m_backward0⟩) (by decide +kernel)
theorem gl_32 : GoodIn lw_tbl (wsV RL 82 RX11 yX11_twice v_c_twice0) := goodIn_sub (List.forall_mem_append.mpr ⟨(List.forall_mem_cons.mpr ⟨lx_590, (List.forall_mem_cons.mpr ⟨lx_589, (List.forall_mem_cons.mpr ⟨lx_588, (List.forall_mem_cons.mpr ⟨lx_20, (fun _ h9 => absurd h9 List.not_mem_nil)⟩)⟩)⟩)⟩), iv_c_twice0⟩) (by decide +kernel)
theorem gl_33 : GoodIn lw_tbl (wsV RL 86 RX12 yX12_twice v_m_twice0) := goodIn_sub (List.forall_mem_append.mpr ⟨(List.forall_mem_cons.mpr ⟨lx_593, (List.forall_mem_cons.mpr ⟨lx_592, (List.forall_mem_cons.mpr ⟨lx_591, (List.forall_mem_cons.mpr ⟨lx_24, (fun _ h9 => absurd h9 List.not_mem_nil)⟩)⟩)⟩)⟩), iv_m_twice0⟩) (by decide +kernel)
theorem gl_34 : GoodIn lw_tbl (wsV RL 87 RX11 yX11_difference v_c_difference0) := goodIn_sub (List.forall_mem_append.mpr ⟨(List.forall_mem_cons.mpr ⟨lx_596, (List.forall_mem_cons.mpr ⟨lx_595, (List.forall_mem_cons.mpr ⟨lx_594, (List.forall_mem_cons.mpr ⟨lx_20, (fun _ h9 => absurd h9 List.not_mem_nil)⟩)⟩)⟩)⟩), iv_c_difference0⟩) (by decide +kernel)
theorem gl_35 : GoodIn lw_tbl (wsV RL 91 RX12 yX12_difference v_m_difference0) := goodIn_sub (List.forall_mem_append.mpr ⟨(List.forall_mem_cons.mpr ⟨lx_599, (List.forall_mem_cons.mpr ⟨lx_598, (List.forall_mem_cons.mpr ⟨lx_597, (List.forall_mem_cons.mpr ⟨lx_24, (fun _ h9 => absurd h9 List.not_mem_nil)⟩)⟩)⟩)⟩), iv_m_difference0⟩) (by decide +kernel)
theorem gl_36 : GoodIn lw_tbl (wsV RL 92 RX11 yX11_moves v_c_moves0) := goodIn_sub (List.forall_mem_append.mpr ⟨(List.forall_mem_cons.mpr ⟨lx_602, (List.forall_mem_cons.mpr ⟨lx_601, (List.forall_mem_cons.mpr ⟨lx_600, (List.forall_mem_cons.mpr ⟨lx_20, (fun _ h9 => absurd h9 List.not_mem_nil)⟩)⟩)⟩)⟩), iv_c_moves0⟩) (by decide +kernel)
theorem gl_37 : GoodIn lw_tbl (wsV RL 95 RX12 yX12_moves v_m_moves0) := goodIn_sub (List.forall_mem_append.mpr ⟨(List.forall_mem_cons.mpr ⟨lx_605, (List.forall_mem_cons.mpr ⟨lx_604, (List.forall_mem_cons.mpr ⟨lx_603, (List.forall_mem_cons.mpr ⟨lx_24, (fun _ h9 => absurd h9 List.not_mem_nil)⟩)⟩)⟩)⟩), iv_m_moves0⟩) (by decide +kernel)
theorem gl_38 : GoodIn lw_tbl (wsV RL 96 RX11 yX11_ways v_c_ways0) := goodIn_sub (List.forall_mem_append.mpr ⟨(List.forall_mem_cons.mpr ⟨lx_608, (List.forall_mem_cons.mpr ⟨lx_607, (List.forall_mem_cons.mpr ⟨lx_606, (List.forall_mem_cons.mpr ⟨lx_20, (fun _ h9 => absurd h9 List.not_mem_nil)⟩)⟩)⟩)⟩), iv_c_ways0⟩) (by decide +kernel)
theorem gl_39 : GoodIn lw_tbl (wsV RL 100 RX12 yX12_ways v_m_ways0) := goodIn_sub (List.forall_mem_append.mpr ⟨(List.forall_mem_cons.mpr ⟨lx_611, (List.forall_mem_cons.mpr ⟨lx_610, (List.forall_mem_cons.mpr ⟨lx_609, (List.forall_mem_cons.mpr ⟨lx_24, (fun _ h9 => absurd h9 List.not_mem_nil)⟩)⟩)⟩)⟩), iv_m_ways0⟩) (by decide +kernel)
theorem gl_40 : GoodIn lw_tbl (wsV RL 101 RX11 yX11_groups v_c_groups0) := goodIn_sub (List.forall_mem_append.mpr ⟨(List.forall_mem_cons.mpr ⟨lx_614, (List.forall_mem_cons.mpr ⟨lx_613, (List.forall_mem_cons.mpr ⟨lx_612, (List.forall_mem_cons.mpr ⟨lx_20, (fun _ h9 => absurd h9 List.not_mem_nil)⟩)⟩)⟩)⟩), iv_c_groups0⟩) (by decide +kernel)
theorem gl_41 : GoodIn lw_tbl (wsV RL 104 RX12 yX12_groups v_m_groups0) := goodIn_sub (List.forall_mem_append.mpr ⟨(List.forall_mem_cons.mpr ⟨lx_617, (List.forall_mem_cons.mpr ⟨lx_616, (List.forall_mem_cons.mpr ⟨lx_615, (List.forall_mem_cons.mpr ⟨lx_24, (fun _ h9 => absurd h9 List.not_mem_nil)⟩)⟩)⟩)⟩), iv_m_groups0⟩) (by decide +kernel)
theorem gl_42 : GoodIn lw_tbl (wsV RL 105 RX11 yX11_group v_c_group0) := goodIn_sub (List.forall_mem_append.mpr ⟨(List.forall_mem_cons.mpr ⟨lx_620, (List.forall_mem_cons.mpr ⟨lx_619, (List.forall_mem_cons.mpr ⟨lx_618, (List.forall_mem_cons.mpr ⟨lx_20, (fun _ h9 => absurd h9 List.not_mem_nil)⟩)⟩)⟩)⟩), iv_c_group0⟩) (by decide +kernel)
theorem gl_43 : GoodIn lw_tbl (wsV RL 108 RX12 yX12_group v_m_group0) := goodIn_sub (List.forall_mem_append.mpr ⟨(List.forall_mem_cons.mpr ⟨lx_623, (List.forall_mem_cons.mpr ⟨lx_622, (List.forall_mem_cons.mpr ⟨lx_621, (List.forall_mem_cons.mpr ⟨lx_24, (fun _ h9 => absurd h9 List.not_mem_nil)⟩)⟩)⟩)⟩), iv_m_group0⟩) (by decide +kernel)
theorem gl_44 : GoodIn lw_tbl (wsV RL 109 RX11 yX11_again v_c_again0) := goodIn_sub (List.forall_mem_append.mpr ⟨(List.forall_mem_cons.mpr ⟨lx_626, (List.forall_mem_cons.mpr ⟨lx_625, (List.forall_mem_cons.mpr ⟨lx_624, (List.forall_mem_cons.mpr ⟨lx_20, (fun _ h9 => absurd h9 List.not_mem_nil)⟩)⟩)⟩)⟩), iv_c_again0⟩) (by decide +kernel)
theorem gl_45 : GoodIn lw_tbl (wsV RL 112 RX12 yX12_again v_m_again0) := goodIn_sub (List.forall_mem_append.mpr ⟨(List.forall_mem_cons.mpr ⟨lx_629, (List.forall_mem_cons.mpr ⟨lx_628, (List.forall_mem_cons.mpr ⟨lx_627, (List.forall_mem_cons.mpr ⟨lx_24, (fun _ h9 => absurd h9 List.not_mem_nil)⟩)⟩)⟩)⟩), iv_m_again0⟩) (by decide +kernel)
theorem gl_46 : GoodIn lw_tbl (wsV RL 113 RX11 yX11_first v_c_first0) := goodIn_sub (List.forall_mem_append.mpr ⟨(List.forall_mem_cons.mpr ⟨lx_632, (List.forall_mem_cons.mpr ⟨lx_631, (List.forall_mem_cons.mpr ⟨lx_630, (List.forall_mem_cons.mpr ⟨lx_20, (fun _ h9 => absurd h9 List.not_mem_nil)⟩)⟩)⟩)⟩), iv_c_first0⟩) (by decide +kernel)
theorem gl_47 : GoodIn lw_tbl (wsV RL 116 RX12 yX12_first v_m_first0) := goodIn_sub (List.forall_mem_append.mpr ⟨(List.forall_mem_cons.mpr ⟨lx_635, (List.forall_mem_cons.mpr ⟨lx_634, (List.forall_mem_cons.mpr ⟨lx_633, (List.forall_mem_cons.mpr ⟨lx_24, (fun _ h9 => absurd h9 List.not_mem_nil)⟩)⟩)⟩)⟩), iv_m_first0⟩) (by decide +kernel)
