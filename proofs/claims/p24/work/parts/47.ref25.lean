/-- what stands at a place of the text, -1 at its end -/
def LV (t : Nat → Int32) (a e : Int) : Int := if a < e then (t a.toNat).toInt else -1
/-- no blank stands there -/
def SD (t : Nat → Int32) (a e : Int) : Prop := ¬ (a < e ∧ ((t a.toNat).toInt = 10 ∨ (t a.toNat).toInt = 32))
theorem LV_in {t : Nat → Int32} {a e : Int} (h : a < e) : LV t a e = (t a.toNat).toInt := if_pos h
theorem LV_out {t : Nat → Int32} {a e : Int} (h : ¬ a < e) : LV t a e = -1 := if_neg h
theorem LV_lt {t : Nat → Int32} {a e : Int} (h : LV t a e ≠ -1) : a < e := by
  by_cases e1 : a < e
  · exact e1
  · exact absurd (LV_out e1) h
theorem PC_lt {f0 f w0 w : Nat → Int32} {c0 c b : Nat} {X : Int} (h : PC f0 f w0 w c0 c b X [false]) : c0 < c := by
  by_cases e : c0 < c
  · exact e
  · have h1 := h.2.2.2.2 []
    rw [show c - c0 = 0 by omega] at h1
    cases h1
/-- a test behind the program: its code is laid -/
theorem PE_PC {f0 f w0 w : Nat → Int32} {c0 c b m : Nat} {nk nk' : Int} {bs bf bj : Nat → Int32} {s : Bool} {fo : Option Nat} {t : List Bool} (h : PE f0 c0 nk m bs bf bj [] s fo) (h2 : PC f0 f w0 w c0 c b (1000 + nk') t) (hk : nk ≤ nk') : PE f c nk' m bs bf bj t (s || t.contains false) fo := by
  have h3 := PE_frame h h2.2.2.1 hk (fun _ _ => ⟨rfl, rfl, rfl⟩)
  have h4 := h2.2.2.2.2 []
  rw [List.append_nil] at h4
  have h5 := h2.1
  have h6 := PE_run h3 h4 (fun j h7 h8 => h2.2.1 j h7 (by omega))
  rw [show c0 + (c - c0) = c by omega] at h6
  exact h6

theorem dX12_tells_0 : decode cX12_tells 0 = .ok (.aload_n 0, 1) := by decide +kernel
theorem dX12_tells_1 : decode cX12_tells 1 = .ok (.getfield 332, 3) := by decide +kernel
theorem dX12_tells_4 : decode cX12_tells 4 = .ok (.ifCond .le 12, 3) := by decide +kernel
theorem dX12_tells_7 : decode cX12_tells 7 = .ok (.aload_n 0, 1) := by decide +kernel
theorem dX12_tells_8 : decode cX12_tells 8 = .ok (.iconst 1, 1) := by decide +kernel
theorem dX12_tells_9 : decode cX12_tells 9 = .ok (.iload_n 3, 1) := by decide +kernel
theorem dX12_tells_10 : decode cX12_tells 10 = .ok (.invokevirtual 221, 3) := by decide +kernel
theorem dX12_tells_13 : decode cX12_tells 13 = .ok (.goto 21, 3) := by decide +kernel
theorem dX12_tells_16 : decode cX12_tells 16 = .ok (.aload_n 0, 1) := by decide +kernel
theorem dX12_tells_17 : decode cX12_tells 17 = .ok (.getfield 60, 3) := by decide +kernel
theorem dX12_tells_20 : decode cX12_tells 20 = .ok (.iconst 0, 1) := by decide +kernel
theorem dX12_tells_21 : decode cX12_tells 21 = .ok (.iload_n 1, 1) := by decide +kernel
theorem dX12_tells_22 : decode cX12_tells 22 = .ok (.iadd, 1) := by decide +kernel
theorem dX12_tells_23 : decode cX12_tells 23 = .ok (.iaload, 1) := by decide +kernel
theorem dX12_tells_24 : decode cX12_tells 24 = .ok (.iload_n 2, 1) := by decide +kernel
theorem dX12_tells_25 : decode cX12_tells 25 = .ok (.if_icmp .ne 9, 3) := by decide +kernel
theorem dX12_tells_28 : decode cX12_tells 28 = .ok (.aload_n 0, 1) := by decide +kernel
theorem dX12_tells_29 : decode cX12_tells 29 = .ok (.iconst 5, 1) := by decide +kernel
theorem dX12_tells_30 : decode cX12_tells 30 = .ok (.iload_n 3, 1) := by decide +kernel
theorem dX12_tells_31 : decode cX12_tells 31 = .ok (.invokevirtual 221, 3) := by decide +kernel
theorem dX12_tells_34 : decode cX12_tells 34 = .ok (.return_, 1) := by decide +kernel
theorem dX12_block_0 : decode cX12_block 0 = .ok (.aload_n 0, 1) := by decide +kernel
theorem dX12_block_1 : decode cX12_block 1 = .ok (.getfield 191, 3) := by decide +kernel
theorem dX12_block_4 : decode cX12_block 4 = .ok (.ifCond .ne 30, 3) := by decide +kernel
theorem dX12_block_7 : decode cX12_block 7 = .ok (.aload_n 0, 1) := by decide +kernel
theorem dX12_block_8 : decode cX12_block 8 = .ok (.invokevirtual 203, 3) := by decide +kernel
theorem dX12_block_11 : decode cX12_block 11 = .ok (.bipush 123, 2) := by decide +kernel
theorem dX12_block_13 : decode cX12_block 13 = .ok (.if_icmp .ne 21, 3) := by decide +kernel
theorem dX12_block_16 : decode cX12_block 16 = .ok (.aload_n 0, 1) := by decide +kernel
theorem dX12_block_17 : decode cX12_block 17 = .ok (.getfield 260, 3) := by decide +kernel
theorem dX12_block_20 : decode cX12_block 20 = .ok (.bipush 8, 2) := by decide +kernel
theorem dX12_block_22 : decode cX12_block 22 = .ok (.if_icmp .ne 12, 3) := by decide +kernel
theorem dX12_block_25 : decode cX12_block 25 = .ok (.aload_n 0, 1) := by decide +kernel
theorem dX12_block_26 : decode cX12_block 26 = .ok (.iconst 4, 1) := by decide +kernel
theorem dX12_block_27 : decode cX12_block 27 = .ok (.aload_n 0, 1) := by decide +kernel
theorem dX12_block_28 : decode cX12_block 28 = .ok (.getfield 197, 3) := by decide +kernel
theorem dX12_block_31 : decode cX12_block 31 = .ok (.invokevirtual 221, 3) := by decide +kernel
theorem dX12_block_34 : decode cX12_block 34 = .ok (.aload_n 0, 1) := by decide +kernel
theorem dX12_block_35 : decode cX12_block 35 = .ok (.bipush 123, 2) := by decide +kernel
theorem dX12_block_37 : decode cX12_block 37 = .ok (.invokevirtual 286, 3) := by decide +kernel
theorem dX12_block_40 : decode cX12_block 40 = .ok (.aload_n 0, 1) := by decide +kernel
theorem dX12_block_41 : decode cX12_block 41 = .ok (.getfield 191, 3) := by decide +kernel
theorem dX12_block_44 : decode cX12_block 44 = .ok (.ifCond .eq 4, 3) := by decide +kernel
theorem dX12_block_47 : decode cX12_block 47 = .ok (.return_, 1) := by decide +kernel
theorem dX12_block_48 : decode cX12_block 48 = .ok (.aload_n 0, 1) := by decide +kernel
theorem dX12_block_49 : decode cX12_block 49 = .ok (.dup, 1) := by decide +kernel
theorem dX12_block_50 : decode cX12_block 50 = .ok (.getfield 260, 3) := by decide +kernel
theorem dX12_block_53 : decode cX12_block 53 = .ok (.iconst 1, 1) := by decide +kernel
theorem dX12_block_54 : decode cX12_block 54 = .ok (.iadd, 1) := by decide +kernel
theorem dX12_block_55 : decode cX12_block 55 = .ok (.putfield 260, 3) := by decide +kernel
theorem dX12_block_58 : decode cX12_block 58 = .ok (.aload_n 0, 1) := by decide +kernel
theorem dX12_block_59 : decode cX12_block 59 = .ok (.getfield 85, 3) := by decide +kernel
theorem dX12_block_62 : decode cX12_block 62 = .ok (.aload_n 0, 1) := by decide +kernel
theorem dX12_block_63 : decode cX12_block 63 = .ok (.getfield 332, 3) := by decide +kernel
theorem dX12_block_66 : decode cX12_block 66 = .ok (.iload_n 1, 1) := by decide +kernel
theorem dX12_block_67 : decode cX12_block 67 = .ok (.iastore, 1) := by decide +kernel
theorem dX12_block_68 : decode cX12_block 68 = .ok (.aload_n 0, 1) := by decide +kernel
theorem dX12_block_69 : decode cX12_block 69 = .ok (.getfield 88, 3) := by decide +kernel
theorem dX12_block_72 : decode cX12_block 72 = .ok (.aload_n 0, 1) := by decide +kernel
theorem dX12_block_73 : decode cX12_block 73 = .ok (.getfield 332, 3) := by decide +kernel
theorem dX12_block_76 : decode cX12_block 76 = .ok (.iload_n 2, 1) := by decide +kernel
theorem dX12_block_77 : decode cX12_block 77 = .ok (.iastore, 1) := by decide +kernel
theorem dX12_block_78 : decode cX12_block 78 = .ok (.aload_n 0, 1) := by decide +kernel
theorem dX12_block_79 : decode cX12_block 79 = .ok (.iload_n 1, 1) := by decide +kernel
theorem dX12_block_80 : decode cX12_block 80 = .ok (.iconst 1, 1) := by decide +kernel
theorem dX12_block_81 : decode cX12_block 81 = .ok (.if_icmp .ne 9, 3) := by decide +kernel
theorem dX12_block_84 : decode cX12_block 84 = .ok (.sipush 502, 3) := by decide +kernel
theorem dX12_block_87 : decode cX12_block 87 = .ok (.goto 6, 3) := by decide +kernel
theorem dX12_block_90 : decode cX12_block 90 = .ok (.sipush 501, 3) := by decide +kernel
theorem dX12_block_93 : decode cX12_block 93 = .ok (.invokevirtual 266, 3) := by decide +kernel
theorem dX12_block_96 : decode cX12_block 96 = .ok (.aload_n 0, 1) := by decide +kernel
theorem dX12_block_97 : decode cX12_block 97 = .ok (.getfield 91, 3) := by decide +kernel
theorem dX12_block_100 : decode cX12_block 100 = .ok (.aload_n 0, 1) := by decide +kernel
theorem dX12_block_101 : decode cX12_block 101 = .ok (.getfield 332, 3) := by decide +kernel
theorem dX12_block_104 : decode cX12_block 104 = .ok (.aload_n 0, 1) := by decide +kernel
theorem dX12_block_105 : decode cX12_block 105 = .ok (.getfield 246, 3) := by decide +kernel
theorem dX12_block_108 : decode cX12_block 108 = .ok (.iastore, 1) := by decide +kernel
theorem dX12_block_109 : decode cX12_block 109 = .ok (.aload_n 0, 1) := by decide +kernel
theorem dX12_block_110 : decode cX12_block 110 = .ok (.iconst 0, 1) := by decide +kernel
theorem dX12_block_111 : decode cX12_block 111 = .ok (.invokevirtual 266, 3) := by decide +kernel
theorem dX12_block_114 : decode cX12_block 114 = .ok (.aload_n 0, 1) := by decide +kernel
theorem dX12_block_115 : decode cX12_block 115 = .ok (.dup, 1) := by decide +kernel
theorem dX12_block_116 : decode cX12_block 116 = .ok (.getfield 332, 3) := by decide +kernel
theorem dX12_block_119 : decode cX12_block 119 = .ok (.iconst 1, 1) := by decide +kernel
theorem dX12_block_120 : decode cX12_block 120 = .ok (.iadd, 1) := by decide +kernel
theorem dX12_block_121 : decode cX12_block 121 = .ok (.putfield 332, 3) := by decide +kernel
theorem dX12_block_124 : decode cX12_block 124 = .ok (.return_, 1) := by decide +kernel
theorem dX12_closesBlock_0 : decode cX12_closesBlock 0 = .ok (.aload_n 0, 1) := by decide +kernel
theorem dX12_closesBlock_1 : decode cX12_closesBlock 1 = .ok (.dup, 1) := by decide +kernel
theorem dX12_closesBlock_2 : decode cX12_closesBlock 2 = .ok (.getfield 197, 3) := by decide +kernel
theorem dX12_closesBlock_5 : decode cX12_closesBlock 5 = .ok (.iconst 1, 1) := by decide +kernel
theorem dX12_closesBlock_6 : decode cX12_closesBlock 6 = .ok (.iadd, 1) := by decide +kernel
theorem dX12_closesBlock_7 : decode cX12_closesBlock 7 = .ok (.putfield 197, 3) := by decide +kernel
theorem dX12_closesBlock_10 : decode cX12_closesBlock 10 = .ok (.aload_n 0, 1) := by decide +kernel
theorem dX12_closesBlock_11 : decode cX12_closesBlock 11 = .ok (.dup, 1) := by decide +kernel
theorem dX12_closesBlock_12 : decode cX12_closesBlock 12 = .ok (.getfield 260, 3) := by decide +kernel
theorem dX12_closesBlock_15 : decode cX12_closesBlock 15 = .ok (.iconst 1, 1) := by decide +kernel
theorem dX12_closesBlock_16 : decode cX12_closesBlock 16 = .ok (.isub, 1) := by decide +kernel
theorem dX12_closesBlock_17 : decode cX12_closesBlock 17 = .ok (.putfield 260, 3) := by decide +kernel
theorem dX12_closesBlock_20 : decode cX12_closesBlock 20 = .ok (.aload_n 0, 1) := by decide +kernel
theorem dX12_closesBlock_21 : decode cX12_closesBlock 21 = .ok (.dup, 1) := by decide +kernel
theorem dX12_closesBlock_22 : decode cX12_closesBlock 22 = .ok (.getfield 332, 3) := by decide +kernel
theorem dX12_closesBlock_25 : decode cX12_closesBlock 25 = .ok (.iconst 1, 1) := by decide +kernel
theorem dX12_closesBlock_26 : decode cX12_closesBlock 26 = .ok (.isub, 1) := by decide +kernel
theorem dX12_closesBlock_27 : decode cX12_closesBlock 27 = .ok (.putfield 332, 3) := by decide +kernel
theorem dX12_closesBlock_30 : decode cX12_closesBlock 30 = .ok (.aload_n 0, 1) := by decide +kernel
theorem dX12_closesBlock_31 : decode cX12_closesBlock 31 = .ok (.getfield 85, 3) := by decide +kernel
theorem dX12_closesBlock_34 : decode cX12_closesBlock 34 = .ok (.aload_n 0, 1) := by decide +kernel
theorem dX12_closesBlock_35 : decode cX12_closesBlock 35 = .ok (.getfield 332, 3) := by decide +kernel
theorem dX12_closesBlock_38 : decode cX12_closesBlock 38 = .ok (.iaload, 1) := by decide +kernel
theorem dX12_closesBlock_39 : decode cX12_closesBlock 39 = .ok (.istore_n 1, 1) := by decide +kernel
theorem dX12_closesBlock_40 : decode cX12_closesBlock 40 = .ok (.aload_n 0, 1) := by decide +kernel
theorem dX12_closesBlock_41 : decode cX12_closesBlock 41 = .ok (.getfield 91, 3) := by decide +kernel
theorem dX12_closesBlock_44 : decode cX12_closesBlock 44 = .ok (.aload_n 0, 1) := by decide +kernel
theorem dX12_closesBlock_45 : decode cX12_closesBlock 45 = .ok (.getfield 332, 3) := by decide +kernel
theorem dX12_closesBlock_48 : decode cX12_closesBlock 48 = .ok (.iaload, 1) := by decide +kernel
theorem dX12_closesBlock_49 : decode cX12_closesBlock 49 = .ok (.istore_n 2, 1) := by decide +kernel
theorem dX12_closesBlock_50 : decode cX12_closesBlock 50 = .ok (.iload_n 1, 1) := by decide +kernel
theorem dX12_closesBlock_51 : decode cX12_closesBlock 51 = .ok (.iconst 2, 1) := by decide +kernel
theorem dX12_closesBlock_52 : decode cX12_closesBlock 52 = .ok (.if_icmp .ne 23, 3) := by decide +kernel
theorem dX12_closesBlock_55 : decode cX12_closesBlock 55 = .ok (.aload_n 0, 1) := by decide +kernel
theorem dX12_closesBlock_56 : decode cX12_closesBlock 56 = .ok (.sipush 502, 3) := by decide +kernel
theorem dX12_closesBlock_59 : decode cX12_closesBlock 59 = .ok (.invokevirtual 266, 3) := by decide +kernel
theorem dX12_closesBlock_62 : decode cX12_closesBlock 62 = .ok (.aload_n 0, 1) := by decide +kernel
theorem dX12_closesBlock_63 : decode cX12_closesBlock 63 = .ok (.aload_n 0, 1) := by decide +kernel
theorem dX12_closesBlock_64 : decode cX12_closesBlock 64 = .ok (.getfield 88, 3) := by decide +kernel
theorem dX12_closesBlock_67 : decode cX12_closesBlock 67 = .ok (.aload_n 0, 1) := by decide +kernel
theorem dX12_closesBlock_68 : decode cX12_closesBlock 68 = .ok (.getfield 332, 3) := by decide +kernel
theorem dX12_closesBlock_71 : decode cX12_closesBlock 71 = .ok (.iaload, 1) := by decide +kernel
theorem dX12_closesBlock_72 : decode cX12_closesBlock 72 = .ok (.invokevirtual 266, 3) := by decide +kernel
theorem dX12_closesBlock_75 : decode cX12_closesBlock 75 = .ok (.iload_n 1, 1) := by decide +kernel
theorem dX12_closesBlock_76 : decode cX12_closesBlock 76 = .ok (.ifCond .ne 20, 3) := by decide +kernel
theorem dX12_closesBlock_79 : decode cX12_closesBlock 79 = .ok (.aload_n 0, 1) := by decide +kernel
theorem dX12_closesBlock_80 : decode cX12_closesBlock 80 = .ok (.aload_n 0, 1) := by decide +kernel
theorem dX12_closesBlock_81 : decode cX12_closesBlock 81 = .ok (.getfield 36, 3) := by decide +kernel
theorem dX12_closesBlock_84 : decode cX12_closesBlock 84 = .ok (.invokevirtual 218, 3) := by decide +kernel
theorem dX12_closesBlock_87 : decode cX12_closesBlock 87 = .ok (.ifCond .eq 9, 3) := by decide +kernel
theorem dX12_closesBlock_90 : decode cX12_closesBlock 90 = .ok (.aload_n 0, 1) := by decide +kernel
theorem dX12_closesBlock_91 : decode cX12_closesBlock 91 = .ok (.iconst 1, 1) := by decide +kernel
theorem dX12_closesBlock_92 : decode cX12_closesBlock 92 = .ok (.iconst 0, 1) := by decide +kernel
theorem dX12_closesBlock_93 : decode cX12_closesBlock 93 = .ok (.invokevirtual 335, 3) := by decide +kernel
theorem dX12_closesBlock_96 : decode cX12_closesBlock 96 = .ok (.aload_n 0, 1) := by decide +kernel
theorem dX12_closesBlock_97 : decode cX12_closesBlock 97 = .ok (.getfield 69, 3) := by decide +kernel
theorem dX12_closesBlock_100 : decode cX12_closesBlock 100 = .ok (.iload_n 2, 1) := by decide +kernel
theorem dX12_closesBlock_101 : decode cX12_closesBlock 101 = .ok (.aload_n 0, 1) := by decide +kernel
theorem dX12_closesBlock_102 : decode cX12_closesBlock 102 = .ok (.getfield 246, 3) := by decide +kernel
theorem dX12_closesBlock_105 : decode cX12_closesBlock 105 = .ok (.iastore, 1) := by decide +kernel
theorem dX12_closesBlock_106 : decode cX12_closesBlock 106 = .ok (.return_, 1) := by decide +kernel
theorem dX12_testBlock_0 : decode cX12_testBlock 0 = .ok (.aload_n 0, 1) := by decide +kernel
theorem dX12_testBlock_1 : decode cX12_testBlock 1 = .ok (.getfield 246, 3) := by decide +kernel
theorem dX12_testBlock_4 : decode cX12_testBlock 4 = .ok (.istore_n 2, 1) := by decide +kernel
theorem dX12_testBlock_5 : decode cX12_testBlock 5 = .ok (.aload_n 0, 1) := by decide +kernel
theorem dX12_testBlock_6 : decode cX12_testBlock 6 = .ok (.iconst 0, 1) := by decide +kernel
theorem dX12_testBlock_7 : decode cX12_testBlock 7 = .ok (.putfield 263, 3) := by decide +kernel
theorem dX12_testBlock_10 : decode cX12_testBlock 10 = .ok (.aload_n 0, 1) := by decide +kernel
theorem dX12_testBlock_11 : decode cX12_testBlock 11 = .ok (.iconst 0, 1) := by decide +kernel
theorem dX12_testBlock_12 : decode cX12_testBlock 12 = .ok (.putfield 270, 3) := by decide +kernel
theorem dX12_testBlock_15 : decode cX12_testBlock 15 = .ok (.aload_n 0, 1) := by decide +kernel
theorem dX12_testBlock_16 : decode cX12_testBlock 16 = .ok (.invokevirtual 338, 3) := by decide +kernel
theorem dX12_testBlock_19 : decode cX12_testBlock 19 = .ok (.aload_n 0, 1) := by decide +kernel
theorem dX12_testBlock_20 : decode cX12_testBlock 20 = .ok (.getfield 191, 3) := by decide +kernel
theorem dX12_testBlock_23 : decode cX12_testBlock 23 = .ok (.ifCond .ne 9, 3) := by decide +kernel
theorem dX12_testBlock_26 : decode cX12_testBlock 26 = .ok (.aload_n 0, 1) := by decide +kernel
theorem dX12_testBlock_27 : decode cX12_testBlock 27 = .ok (.iload_n 1, 1) := by decide +kernel
theorem dX12_testBlock_28 : decode cX12_testBlock 28 = .ok (.iload_n 2, 1) := by decide +kernel
theorem dX12_testBlock_29 : decode cX12_testBlock 29 = .ok (.invokevirtual 335, 3) := by decide +kernel
theorem dX12_testBlock_32 : decode cX12_testBlock 32 = .ok (.return_, 1) := by decide +kernel
def v_q_look3 : List Cond := .code yX12_look cX12_look 1 (some .int) :: ([.fieldLink RX12 197 "SlopeRunnerModel" "at" "I", .fieldLink RX12 200 "SlopeRunnerModel" "end" "I", .fieldLink RX12 7 "SlopeRunnerModel" "tape" "[I"] ++ wsX120)
set_option maxHeartbeats 4000000 in
set_option maxRecDepth 100000 in
theorem q_look3 (l : Launch) (D : va_G) (y : Nat → ClassId) (sz : Nat) (ad : Nat → Nat) (zw : Nat → Nat → Int32) (σ : OS) (ha0 : 0 ≤ (σ.1 2).toInt) (ha1 : (σ.1 2).toInt ≤ (σ.1 3).toInt) (ha2 : (σ.1 3).toInt ≤ 700) : Met l yX12_look v_q_look3 ({ frames := 0, cells := 0, slots := 0, locals := 0 } : Room) (va_Pc [.ref (ad 1)] (xPre D (xT y) (mwd y ad zw σ) sz)) (va_Qi (fun (r : Int32) (u : Int32) => (σ.1 2).toInt ≤ u.toInt ∧ u.toInt ≤ (σ.1 3).toInt ∧ SD (σ.2.2.1 0) u.toInt (σ.1 3).toInt ∧ r.toInt = LV (σ.2.2.1 0) u.toInt (σ.1 3).toInt) (fun (u : Int32) => xB D (xT y) (va_A (mwd y ad zw σ) sz) (mwd y ad zw (sI σ 2 u))) (va_A (mwd y ad zw σ) sz)) 0 0 (va_A (mwd y ad zw σ) sz) := by
  refine x_meti (cc := cX12_look) (maxL := 1) (by decide) rfl (Nat.le_of_ble_eq_true rfl) ?_
  intro p e s m below meth c A H locs Q hx hb hml hown hts hr hlocks hmn hA hP hK hD hS ls hl hQ
  have hl : lv_has ls 1 [(0, .ref (ad 1))] := hl
  have fl197 := hts (.fieldLink RX12 197 "SlopeRunnerModel" "at" "I") (List.mem_of_getElem? (i := 1) rfl)
  have inX12 : ∀ w ∈ wsX120, w ∈ v_q_look3 := (fun w h => List.mem_cons_of_mem _ (List.mem_append_right _ h))
  have fl200 := hts (.fieldLink RX12 200 "SlopeRunnerModel" "end" "I") (List.mem_of_getElem? (i := 2) rfl)
  have kk_m1 : ((-1) : Int32).toInt = -1 := rfl
  have fl7 := hts (.fieldLink RX12 7 "SlopeRunnerModel" "tape" "[I") (List.mem_of_getElem? (i := 3) rfl)
  have kk_10 : (10 : Int32).toInt = 10 := rfl
  have kk_1 : (1 : Int32).toInt = 1 := rfl
  have kk_32 : (32 : Int32).toInt = 32 := rfl
  have hP : va_P D vwCl (mwd y ad zw (sI σ 2 (σ.1 2))) H := hP
  have hD : va_D A (mwd y ad zw (sI σ 2 (σ.1 2))) := hD
  have loop : ∀ (fu : Nat) (a : Int32) (H : Heap) (locs : List Loc) (ls : Array Slot), ((σ.1 2).toInt ≤ a.toInt) → (a.toInt ≤ (σ.1 3).toInt) → ((σ.1 3).toInt - a.toInt < (fu : Int)) → va_P D vwCl (mwd y ad zw (sI σ 2 a)) H → va_D A (mwd y ad zw (sI σ 2 a)) → va_S A s.heap H locs → lv_has ls 1 [(0, .ref (ad 1))] → W p l e ({ frames := 0, cells := 0, slots := 0, locals := 0 } : Room) s m ([.ref (ad 1)] : List Value).toArray below meth c H locs 0 0 Q (F0 m 0 ls []) := by
    intro fu
    induction fu with
    | zero =>
      intro a H locs ls hl0 hl1 hm
      exact absurd hm (by omega)
    | succ fu ih_loop =>
      intro a H locs ls hl0 hl1 hm hP hD hS hl
      refine lv_aload_n hx hb dX12_look_0 rfl (lv_at hl 0 rfl) ?_
      refine va_get (D := D) (ci := 11) (v := .int a) (C := RX12) (T := TX12) (N := 85) hx hb hts inX12 hown hK hP 0 mwd_o0 rfl 2 (by decide) fl197 (fun _ h9 => h9) rfl dX12_look_1 ?_
      refine lv_aload_n hx hb dX12_look_4 rfl (lv_at hl 0 rfl) ?_
      refine va_get (D := D) (ci := 11) (v := .int (σ.1 3)) (C := RX12) (T := TX12) (N := 85) hx hb hts inX12 hown hK hP 0 mwd_o0 rfl 3 (by decide) fl200 (fun _ h9 => h9) rfl dX12_look_5 ?_
      refine lv_icmp_ge (tgt := 52) hx hb dX12_look_8 (by decide) (fun c_1 => ?_) (fun c_1 => ?_)
      · have kc_1 : a.toInt ≥ (σ.1 3).toInt := by have h9 := c_1; simp only [ge_iff_le, gt_iff_lt, x_lt, x_le, x_eq, ne_eq, Int32.not_lt, Int32.not_le] at h9; omega
        refine lv_aload_n hx hb dX12_look_52 rfl (lv_at hl 0 rfl) ?_
        refine va_get (D := D) (ci := 11) (v := .int a) (C := RX12) (T := TX12) (N := 85) hx hb hts inX12 hown hK hP 0 mwd_o0 rfl 2 (by decide) fl197 (fun _ h9 => h9) rfl dX12_look_53 ?_
        refine lv_aload_n hx hb dX12_look_56 rfl (lv_at hl 0 rfl) ?_
        refine va_get (D := D) (ci := 11) (v := .int (σ.1 3)) (C := RX12) (T := TX12) (N := 85) hx hb hts inX12 hown hK hP 0 mwd_o0 rfl 3 (by decide) fl200 (fun _ h9 => h9) rfl dX12_look_57 ?_
        refine lv_icmp_ge (tgt := 75) hx hb dX12_look_60 (by decide) (fun c_2 => ?_) (fun c_2 => ?_)
        · have kc_2 : a.toInt ≥ (σ.1 3).toInt := by have h9 := c_2; simp only [ge_iff_le, gt_iff_lt, x_lt, x_le, x_eq, ne_eq, Int32.not_lt, Int32.not_le] at h9; omega
          refine lv_iconst (v := (-1)) hx hb dX12_look_75 (by decide) ?_
          exact x_iretW (v := (-1)) (u := a) hx hb hr hQ ⟨by omega, by omega, fun h9 => by omega, by rw [LV_out (by omega)]; rfl⟩ hP hD hK hS dX12_look_76 hlocks
        · have kc_2 : a.toInt < (σ.1 3).toInt := by have h9 := c_2; simp only [ge_iff_le, gt_iff_lt, x_lt, x_le, x_eq, ne_eq, Int32.not_lt, Int32.not_le] at h9; omega
          refine lv_aload_n hx hb dX12_look_63 rfl (lv_at hl 0 rfl) ?_
          refine va_get (D := D) (ci := 11) (v := .ref (ad 0)) (C := RX12) (T := TX12) (N := 85) hx hb hts inX12 hown hK hP 0 mwd_o0 rfl 0 (by decide) fl7 (fun _ h9 => h9) rfl dX12_look_64 ?_
          refine lv_aload_n hx hb dX12_look_67 rfl (lv_at hl 0 rfl) ?_
          refine va_get (D := D) (ci := 11) (v := .int a) (C := RX12) (T := TX12) (N := 85) hx hb hts inX12 hown hK hP 0 mwd_o0 rfl 2 (by decide) fl197 (fun _ h9 => h9) rfl dX12_look_68 ?_
          refine va_iald hx hb hK hP 1 2 mwd_a1 rfl (x_in (by omega) (by omega)) dX12_look_71 ?_
          refine lv_topi (fun i_3 ei_3 => ?_)
          have ei_3 : i_3 = (σ.2.2.1 0) (Int32.toNatClampNeg a) := ei_3
          have qi_3 : i_3.toInt = ((σ.2.2.1 0) a.toInt.toNat).toInt := by rw [ei_3]; rfl
          refine lv_goto (tgt := 76) hx hb dX12_look_72 (by decide) ?_
          exact x_iretW (v := i_3) (u := a) hx hb hr hQ ⟨by omega, by omega, fun h9 => by omega, by rw [LV_in (by omega)]; omega⟩ hP hD hK hS dX12_look_76 hlocks
      · have kc_1 : a.toInt < (σ.1 3).toInt := by have h9 := c_1; simp only [ge_iff_le, gt_iff_lt, x_lt, x_le, x_eq, ne_eq, Int32.not_lt, Int32.not_le] at h9; omega
        refine lv_aload_n hx hb dX12_look_11 rfl (lv_at hl 0 rfl) ?_
        refine va_get (D := D) (ci := 11) (v := .ref (ad 0)) (C := RX12) (T := TX12) (N := 85) hx hb hts inX12 hown hK hP 0 mwd_o0 rfl 0 (by decide) fl7 (fun _ h9 => h9) rfl dX12_look_12 ?_
        refine lv_aload_n hx hb dX12_look_15 rfl (lv_at hl 0 rfl) ?_
        refine va_get (D := D) (ci := 11) (v := .int a) (C := RX12) (T := TX12) (N := 85) hx hb hts inX12 hown hK hP 0 mwd_o0 rfl 2 (by decide) fl197 (fun _ h9 => h9) rfl dX12_look_16 ?_
        refine va_iald hx hb hK hP 1 2 mwd_a1 rfl (x_in (by omega) (by omega)) dX12_look_19 ?_
        refine lv_topi (fun i_4 ei_4 => ?_)
        have ei_4 : i_4 = (σ.2.2.1 0) (Int32.toNatClampNeg a) := ei_4
        have qi_4 : i_4.toInt = ((σ.2.2.1 0) a.toInt.toNat).toInt := by rw [ei_4]; rfl
        refine lv_bipush (v := 10) hx hb dX12_look_20 (by decide) ?_
        refine lv_icmp_eq (tgt := 39) hx hb dX12_look_22 (by decide) (fun c_5 => ?_) (fun c_5 => ?_)
        · have kc_5 : i_4.toInt = 10 := by have h9 := c_5; simp only [ge_iff_le, gt_iff_lt, x_lt, x_le, x_eq, ne_eq, Int32.not_lt, Int32.not_le] at h9; simp only [Int32.reduceToInt] at h9; omega
          refine lv_aload_n hx hb dX12_look_39 rfl (lv_at hl 0 rfl) ?_
          refine lv_dup hx hb dX12_look_40 rfl ?_
          refine va_get (D := D) (ci := 11) (v := .int a) (C := RX12) (T := TX12) (N := 85) hx hb hts inX12 hown hK hP 0 mwd_o0 rfl 2 (by decide) fl197 (fun _ h9 => h9) rfl dX12_look_41 ?_
          refine lv_iconst (v := 1) hx hb dX12_look_44 (by decide) ?_
          refine lv_iadd hx hb dX12_look_45 ?_
          refine lv_topi (fun i_6 ei_6 => ?_)
          have vi_6 : i_6.toInt = a.toInt + 1 := by have h9 := x_add ei_6 (by omega) (by omega); omega
          refine va_put (D := D) (ci := 11) (v := .int i_6) (ty := .int) (C := RX12) (T := TX12) (N := 85) hx hb hts inX12 tyX12 tyX12_ok nmX12 hown hK hP hD hS 0 mwd_o0 rfl 2 (by decide) fl197 (fun _ h9 => h9) rfl (by decide +kernel) rfl rfl (Nat.le_of_ble_eq_true rfl) dX12_look_46 (fun H locs hP hD hS => ?_)
          have hP : va_P D vwCl (mwd y ad zw (sI (sI σ 2 a) 2 i_6)) H := x_trP hP mwd_p0_2
          have hD : va_D A (mwd y ad zw (sI (sI σ 2 a) 2 i_6)) := x_trD hD mwd_p0_2
          refine lv_goto (tgt := 0) hx hb dX12_look_49 (by decide) ?_
          have hP : va_P D vwCl (mwd y ad zw (sI σ 2 i_6)) H := hP
          have hD : va_D A (mwd y ad zw (sI σ 2 i_6)) := hD
          exact ih_loop i_6 H locs ls (by omega) (by omega) (by omega) hP hD hS (lv_sub hl [0] rfl)
        · have kc_5 : i_4.toInt ≠ 10 := by have h9 := c_5; simp only [ge_iff_le, gt_iff_lt, x_lt, x_le, x_eq, ne_eq, Int32.not_lt, Int32.not_le] at h9; simp only [Int32.reduceToInt] at h9; omega
          refine lv_aload_n hx hb dX12_look_25 rfl (lv_at hl 0 rfl) ?_
          refine va_get (D := D) (ci := 11) (v := .ref (ad 0)) (C := RX12) (T := TX12) (N := 85) hx hb hts inX12 hown hK hP 0 mwd_o0 rfl 0 (by decide) fl7 (fun _ h9 => h9) rfl dX12_look_26 ?_
          refine lv_aload_n hx hb dX12_look_29 rfl (lv_at hl 0 rfl) ?_
          refine va_get (D := D) (ci := 11) (v := .int a) (C := RX12) (T := TX12) (N := 85) hx hb hts inX12 hown hK hP 0 mwd_o0 rfl 2 (by decide) fl197 (fun _ h9 => h9) rfl dX12_look_30 ?_
          refine va_iald hx hb hK hP 1 2 mwd_a1 rfl (x_in (by omega) (by omega)) dX12_look_33 ?_
          refine lv_topi (fun i_7 ei_7 => ?_)
          have ei_7 : i_7 = (σ.2.2.1 0) (Int32.toNatClampNeg a) := ei_7
          have qi_7 : i_7.toInt = ((σ.2.2.1 0) a.toInt.toNat).toInt := by rw [ei_7]; rfl
          refine lv_bipush (v := 32) hx hb dX12_look_34 (by decide) ?_
          refine lv_icmp_ne (tgt := 52) hx hb dX12_look_36 (by decide) (fun c_8 => ?_) (fun c_8 => ?_)
          · have kc_8 : i_7.toInt ≠ 32 := by have h9 := c_8; simp only [ge_iff_le, gt_iff_lt, x_lt, x_le, x_eq, ne_eq, Int32.not_lt, Int32.not_le] at h9; simp only [Int32.reduceToInt] at h9; omega
            refine lv_aload_n hx hb dX12_look_52 rfl (lv_at hl 0 rfl) ?_
            refine va_get (D := D) (ci := 11) (v := .int a) (C := RX12) (T := TX12) (N := 85) hx hb hts inX12 hown hK hP 0 mwd_o0 rfl 2 (by decide) fl197 (fun _ h9 => h9) rfl dX12_look_53 ?_
            refine lv_aload_n hx hb dX12_look_56 rfl (lv_at hl 0 rfl) ?_
            refine va_get (D := D) (ci := 11) (v := .int (σ.1 3)) (C := RX12) (T := TX12) (N := 85) hx hb hts inX12 hown hK hP 0 mwd_o0 rfl 3 (by decide) fl200 (fun _ h9 => h9) rfl dX12_look_57 ?_
            refine lv_icmp_ge (tgt := 75) hx hb dX12_look_60 (by decide) (fun c_9 => ?_) (fun c_9 => ?_)
            · have kc_9 : a.toInt ≥ (σ.1 3).toInt := by have h9 := c_9; simp only [ge_iff_le, gt_iff_lt, x_lt, x_le, x_eq, ne_eq, Int32.not_lt, Int32.not_le] at h9; omega
              refine lv_iconst (v := (-1)) hx hb dX12_look_75 (by decide) ?_
              exact x_iretW (v := (-1)) (u := a) hx hb hr hQ ⟨by omega, by omega, fun h9 => by omega, by rw [LV_out (by omega)]; rfl⟩ hP hD hK hS dX12_look_76 hlocks
            · have kc_9 : a.toInt < (σ.1 3).toInt := by have h9 := c_9; simp only [ge_iff_le, gt_iff_lt, x_lt, x_le, x_eq, ne_eq, Int32.not_lt, Int32.not_le] at h9; omega
              refine lv_aload_n hx hb dX12_look_63 rfl (lv_at hl 0 rfl) ?_
              refine va_get (D := D) (ci := 11) (v := .ref (ad 0)) (C := RX12) (T := TX12) (N := 85) hx hb hts inX12 hown hK hP 0 mwd_o0 rfl 0 (by decide) fl7 (fun _ h9 => h9) rfl dX12_look_64 ?_
              refine lv_aload_n hx hb dX12_look_67 rfl (lv_at hl 0 rfl) ?_
              refine va_get (D := D) (ci := 11) (v := .int a) (C := RX12) (T := TX12) (N := 85) hx hb hts inX12 hown hK hP 0 mwd_o0 rfl 2 (by decide) fl197 (fun _ h9 => h9) rfl dX12_look_68 ?_
              refine va_iald hx hb hK hP 1 2 mwd_a1 rfl (x_in (by omega) (by omega)) dX12_look_71 ?_
              refine lv_topi (fun i_10 ei_10 => ?_)
              have ei_10 : i_10 = (σ.2.2.1 0) (Int32.toNatClampNeg a) := ei_10
              have qi_10 : i_10.toInt = ((σ.2.2.1 0) a.toInt.toNat).toInt := by rw [ei_10]; rfl
              refine lv_goto (tgt := 76) hx hb dX12_look_72 (by decide) ?_
              exact x_iretW (v := i_10) (u := a) hx hb hr hQ ⟨by omega, by omega, fun h9 => by omega, by rw [LV_in (by omega)]; omega⟩ hP hD hK hS dX12_look_76 hlocks
          · have kc_8 : i_7.toInt = 32 := by have h9 := c_8; simp only [ge_iff_le, gt_iff_lt, x_lt, x_le, x_eq, ne_eq, Int32.not_lt, Int32.not_le] at h9; simp only [Int32.reduceToInt] at h9; omega
            refine lv_aload_n hx hb dX12_look_39 rfl (lv_at hl 0 rfl) ?_
            refine lv_dup hx hb dX12_look_40 rfl ?_
            refine va_get (D := D) (ci := 11) (v := .int a) (C := RX12) (T := TX12) (N := 85) hx hb hts inX12 hown hK hP 0 mwd_o0 rfl 2 (by decide) fl197 (fun _ h9 => h9) rfl dX12_look_41 ?_
            refine lv_iconst (v := 1) hx hb dX12_look_44 (by decide) ?_
            refine lv_iadd hx hb dX12_look_45 ?_
            refine lv_topi (fun i_11 ei_11 => ?_)
            have vi_11 : i_11.toInt = a.toInt + 1 := by have h9 := x_add ei_11 (by omega) (by omega); omega
            refine va_put (D := D) (ci := 11) (v := .int i_11) (ty := .int) (C := RX12) (T := TX12) (N := 85) hx hb hts inX12 tyX12 tyX12_ok nmX12 hown hK hP hD hS 0 mwd_o0 rfl 2 (by decide) fl197 (fun _ h9 => h9) rfl (by decide +kernel) rfl rfl (Nat.le_of_ble_eq_true rfl) dX12_look_46 (fun H locs hP hD hS => ?_)
            have hP : va_P D vwCl (mwd y ad zw (sI (sI σ 2 a) 2 i_11)) H := x_trP hP mwd_p0_2
            have hD : va_D A (mwd y ad zw (sI (sI σ 2 a) 2 i_11)) := x_trD hD mwd_p0_2
            refine lv_goto (tgt := 0) hx hb dX12_look_49 (by decide) ?_
            have hP : va_P D vwCl (mwd y ad zw (sI σ 2 i_11)) H := hP
            have hD : va_D A (mwd y ad zw (sI σ 2 i_11)) := hD
            exact ih_loop i_11 H locs ls (by omega) (by omega) (by omega) hP hD hS (lv_sub hl [0] rfl)
  exact loop (700 + 1) (σ.1 2) H locs ls (Int.le_refl _) ha1 (by omega) hP hD hS (lv_sub hl [0] rfl)

def v_q_look4 : List Cond := .code yX12_look cX12_look 1 (some .int) :: ([.fieldLink RX12 197 "SlopeRunnerModel" "at" "I", .fieldLink RX12 200 "SlopeRunnerModel" "end" "I", .fieldLink RX12 7 "SlopeRunnerModel" "tape" "[I"] ++ wsX120)
set_option maxHeartbeats 4000000 in
set_option maxRecDepth 100000 in
theorem q_look4 (l : Launch) (D : va_G) (y : Nat → ClassId) (sz : Nat) (ad : Nat → Nat) (zw : Nat → Nat → Int32) (σ : OS) (ha0 : 0 ≤ (σ.1 2).toInt) (ha1 : (σ.1 2).toInt ≤ (σ.1 3).toInt) (ha2 : (σ.1 3).toInt ≤ 700) (hsd : SD (σ.2.2.1 0) (σ.1 2).toInt (σ.1 3).toInt) : Met l yX12_look v_q_look4 ({ frames := 0, cells := 0, slots := 0, locals := 0 } : Room) (va_Pc [.ref (ad 1)] (xPre D (xT y) (mwd y ad zw σ) sz)) (va_Qi (fun (r : Int32) (u : Int32) => u = (σ.1 2) ∧ r.toInt = LV (σ.2.2.1 0) (σ.1 2).toInt (σ.1 3).toInt) (fun (u : Int32) => xB D (xT y) (va_A (mwd y ad zw σ) sz) (mwd y ad zw (sI σ 2 u))) (va_A (mwd y ad zw σ) sz)) 0 0 (va_A (mwd y ad zw σ) sz) := by
  refine x_meti (cc := cX12_look) (maxL := 1) (by decide) rfl (Nat.le_of_ble_eq_true rfl) ?_
  intro p e s m below meth c A H locs Q hx hb hml hown hts hr hlocks hmn hA hP hK hD hS ls hl hQ
  have hl : lv_has ls 1 [(0, .ref (ad 1))] := hl
  have fl197 := hts (.fieldLink RX12 197 "SlopeRunnerModel" "at" "I") (List.mem_of_getElem? (i := 1) rfl)
  have inX12 : ∀ w ∈ wsX120, w ∈ v_q_look4 := (fun w h => List.mem_cons_of_mem _ (List.mem_append_right _ h))
  have fl200 := hts (.fieldLink RX12 200 "SlopeRunnerModel" "end" "I") (List.mem_of_getElem? (i := 2) rfl)
  have kk_m1 : ((-1) : Int32).toInt = -1 := rfl
  have fl7 := hts (.fieldLink RX12 7 "SlopeRunnerModel" "tape" "[I") (List.mem_of_getElem? (i := 3) rfl)
  have kk_10 : (10 : Int32).toInt = 10 := rfl
  have kk_32 : (32 : Int32).toInt = 32 := rfl
  refine lv_aload_n hx hb dX12_look_0 rfl (lv_at hl 0 rfl) ?_
  refine va_get (D := D) (ci := 11) (v := .int (σ.1 2)) (C := RX12) (T := TX12) (N := 85) hx hb hts inX12 hown hK hP 0 mwd_o0 rfl 2 (by decide) fl197 (fun _ h9 => h9) rfl dX12_look_1 ?_
  refine lv_aload_n hx hb dX12_look_4 rfl (lv_at hl 0 rfl) ?_
  refine va_get (D := D) (ci := 11) (v := .int (σ.1 3)) (C := RX12) (T := TX12) (N := 85) hx hb hts inX12 hown hK hP 0 mwd_o0 rfl 3 (by decide) fl200 (fun _ h9 => h9) rfl dX12_look_5 ?_
  refine lv_icmp_ge (tgt := 52) hx hb dX12_look_8 (by decide) (fun c_1 => ?_) (fun c_1 => ?_)
  · have kc_1 : (σ.1 2).toInt ≥ (σ.1 3).toInt := by have h9 := c_1; simp only [ge_iff_le, gt_iff_lt, x_lt, x_le, x_eq, ne_eq, Int32.not_lt, Int32.not_le] at h9; omega
    refine lv_aload_n hx hb dX12_look_52 rfl (lv_at hl 0 rfl) ?_
    refine va_get (D := D) (ci := 11) (v := .int (σ.1 2)) (C := RX12) (T := TX12) (N := 85) hx hb hts inX12 hown hK hP 0 mwd_o0 rfl 2 (by decide) fl197 (fun _ h9 => h9) rfl dX12_look_53 ?_
    refine lv_aload_n hx hb dX12_look_56 rfl (lv_at hl 0 rfl) ?_
    refine va_get (D := D) (ci := 11) (v := .int (σ.1 3)) (C := RX12) (T := TX12) (N := 85) hx hb hts inX12 hown hK hP 0 mwd_o0 rfl 3 (by decide) fl200 (fun _ h9 => h9) rfl dX12_look_57 ?_
    refine lv_icmp_ge (tgt := 75) hx hb dX12_look_60 (by decide) (fun c_2 => ?_) (fun c_2 => ?_)
    · have kc_2 : (σ.1 2).toInt ≥ (σ.1 3).toInt := by have h9 := c_2; simp only [ge_iff_le, gt_iff_lt, x_lt, x_le, x_eq, ne_eq, Int32.not_lt, Int32.not_le] at h9; omega
      refine lv_iconst (v := (-1)) hx hb dX12_look_75 (by decide) ?_
      have hP : va_P D vwCl (mwd y ad zw (sI σ 2 (σ.1 2))) H := hP
      have hD : va_D A (mwd y ad zw (sI σ 2 (σ.1 2))) := hD
      exact x_iretW (v := (-1)) (u := (σ.1 2)) hx hb hr hQ ⟨rfl, by rw [LV_out (by omega)]; rfl⟩ hP hD hK hS dX12_look_76 hlocks
    · have kc_2 : (σ.1 2).toInt < (σ.1 3).toInt := by have h9 := c_2; simp only [ge_iff_le, gt_iff_lt, x_lt, x_le, x_eq, ne_eq, Int32.not_lt, Int32.not_le] at h9; omega
      refine lv_aload_n hx hb dX12_look_63 rfl (lv_at hl 0 rfl) ?_
      refine va_get (D := D) (ci := 11) (v := .ref (ad 0)) (C := RX12) (T := TX12) (N := 85) hx hb hts inX12 hown hK hP 0 mwd_o0 rfl 0 (by decide) fl7 (fun _ h9 => h9) rfl dX12_look_64 ?_
      refine lv_aload_n hx hb dX12_look_67 rfl (lv_at hl 0 rfl) ?_
      refine va_get (D := D) (ci := 11) (v := .int (σ.1 2)) (C := RX12) (T := TX12) (N := 85) hx hb hts inX12 hown hK hP 0 mwd_o0 rfl 2 (by decide) fl197 (fun _ h9 => h9) rfl dX12_look_68 ?_
      refine va_iald hx hb hK hP 1 2 mwd_a1 rfl (x_in (by omega) (by omega)) dX12_look_71 ?_
      refine lv_topi (fun i_3 ei_3 => ?_)
      have ei_3 : i_3 = (σ.2.2.1 0) (Int32.toNatClampNeg (σ.1 2)) := ei_3
      have qi_3 : i_3.toInt = ((σ.2.2.1 0) (σ.1 2).toInt.toNat).toInt := by rw [ei_3]; rfl
      have hsi_3 : ¬ (((σ.2.2.1 0) (σ.1 2).toInt.toNat).toInt = 10 ∨ ((σ.2.2.1 0) (σ.1 2).toInt.toNat).toInt = 32) := fun h9 => hsd ⟨by omega, h9⟩
      refine lv_goto (tgt := 76) hx hb dX12_look_72 (by decide) ?_
      have hP : va_P D vwCl (mwd y ad zw (sI σ 2 (σ.1 2))) H := hP
      have hD : va_D A (mwd y ad zw (sI σ 2 (σ.1 2))) := hD
      exact x_iretW (v := i_3) (u := (σ.1 2)) hx hb hr hQ ⟨rfl, by rw [LV_in (by omega)]; omega⟩ hP hD hK hS dX12_look_76 hlocks
  · have kc_1 : (σ.1 2).toInt < (σ.1 3).toInt := by have h9 := c_1; simp only [ge_iff_le, gt_iff_lt, x_lt, x_le, x_eq, ne_eq, Int32.not_lt, Int32.not_le] at h9; omega
    refine lv_aload_n hx hb dX12_look_11 rfl (lv_at hl 0 rfl) ?_
    refine va_get (D := D) (ci := 11) (v := .ref (ad 0)) (C := RX12) (T := TX12) (N := 85) hx hb hts inX12 hown hK hP 0 mwd_o0 rfl 0 (by decide) fl7 (fun _ h9 => h9) rfl dX12_look_12 ?_
    refine lv_aload_n hx hb dX12_look_15 rfl (lv_at hl 0 rfl) ?_
    refine va_get (D := D) (ci := 11) (v := .int (σ.1 2)) (C := RX12) (T := TX12) (N := 85) hx hb hts inX12 hown hK hP 0 mwd_o0 rfl 2 (by decide) fl197 (fun _ h9 => h9) rfl dX12_look_16 ?_
    refine va_iald hx hb hK hP 1 2 mwd_a1 rfl (x_in (by omega) (by omega)) dX12_look_19 ?_
    refine lv_topi (fun i_4 ei_4 => ?_)
    have ei_4 : i_4 = (σ.2.2.1 0) (Int32.toNatClampNeg (σ.1 2)) := ei_4
    have qi_4 : i_4.toInt = ((σ.2.2.1 0) (σ.1 2).toInt.toNat).toInt := by rw [ei_4]; rfl
    have hsi_4 : ¬ (((σ.2.2.1 0) (σ.1 2).toInt.toNat).toInt = 10 ∨ ((σ.2.2.1 0) (σ.1 2).toInt.toNat).toInt = 32) := fun h9 => hsd ⟨by omega, h9⟩
    refine lv_bipush (v := 10) hx hb dX12_look_20 (by decide) ?_
    refine lv_icmp_eq (tgt := 39) hx hb dX12_look_22 (by decide) (fun c_5 => ?_) (fun c_5 => ?_)
    · have kc_5 : i_4.toInt = 10 := by have h9 := c_5; simp only [ge_iff_le, gt_iff_lt, x_lt, x_le, x_eq, ne_eq, Int32.not_lt, Int32.not_le] at h9; simp only [Int32.reduceToInt] at h9; omega
      exfalso
      omega
    · have kc_5 : i_4.toInt ≠ 10 := by have h9 := c_5; simp only [ge_iff_le, gt_iff_lt, x_lt, x_le, x_eq, ne_eq, Int32.not_lt, Int32.not_le] at h9; simp only [Int32.reduceToInt] at h9; omega
      refine lv_aload_n hx hb dX12_look_25 rfl (lv_at hl 0 rfl) ?_
      refine va_get (D := D) (ci := 11) (v := .ref (ad 0)) (C := RX12) (T := TX12) (N := 85) hx hb hts inX12 hown hK hP 0 mwd_o0 rfl 0 (by decide) fl7 (fun _ h9 => h9) rfl dX12_look_26 ?_
      refine lv_aload_n hx hb dX12_look_29 rfl (lv_at hl 0 rfl) ?_
      refine va_get (D := D) (ci := 11) (v := .int (σ.1 2)) (C := RX12) (T := TX12) (N := 85) hx hb hts inX12 hown hK hP 0 mwd_o0 rfl 2 (by decide) fl197 (fun _ h9 => h9) rfl dX12_look_30 ?_
      refine va_iald hx hb hK hP 1 2 mwd_a1 rfl (x_in (by omega) (by omega)) dX12_look_33 ?_
      refine lv_topi (fun i_6 ei_6 => ?_)
      have ei_6 : i_6 = (σ.2.2.1 0) (Int32.toNatClampNeg (σ.1 2)) := ei_6
      have qi_6 : i_6.toInt = ((σ.2.2.1 0) (σ.1 2).toInt.toNat).toInt := by rw [ei_6]; rfl
      have hsi_6 : ¬ (((σ.2.2.1 0) (σ.1 2).toInt.toNat).toInt = 10 ∨ ((σ.2.2.1 0) (σ.1 2).toInt.toNat).toInt = 32) := fun h9 => hsd ⟨by omega, h9⟩
      refine lv_bipush (v := 32) hx hb dX12_look_34 (by decide) ?_
      refine lv_icmp_ne (tgt := 52) hx hb dX12_look_36 (by decide) (fun c_7 => ?_) (fun c_7 => ?_)
      · have kc_7 : i_6.toInt ≠ 32 := by have h9 := c_7; simp only [ge_iff_le, gt_iff_lt, x_lt, x_le, x_eq, ne_eq, Int32.not_lt, Int32.not_le] at h9; simp only [Int32.reduceToInt] at h9; omega
        refine lv_aload_n hx hb dX12_look_52 rfl (lv_at hl 0 rfl) ?_
        refine va_get (D := D) (ci := 11) (v := .int (σ.1 2)) (C := RX12) (T := TX12) (N := 85) hx hb hts inX12 hown hK hP 0 mwd_o0 rfl 2 (by decide) fl197 (fun _ h9 => h9) rfl dX12_look_53 ?_
        refine lv_aload_n hx hb dX12_look_56 rfl (lv_at hl 0 rfl) ?_
        refine va_get (D := D) (ci := 11) (v := .int (σ.1 3)) (C := RX12) (T := TX12) (N := 85) hx hb hts inX12 hown hK hP 0 mwd_o0 rfl 3 (by decide) fl200 (fun _ h9 => h9) rfl dX12_look_57 ?_
        refine lv_icmp_ge (tgt := 75) hx hb dX12_look_60 (by decide) (fun c_8 => ?_) (fun c_8 => ?_)
        · have kc_8 : (σ.1 2).toInt ≥ (σ.1 3).toInt := by have h9 := c_8; simp only [ge_iff_le, gt_iff_lt, x_lt, x_le, x_eq, ne_eq, Int32.not_lt, Int32.not_le] at h9; omega
          refine lv_iconst (v := (-1)) hx hb dX12_look_75 (by decide) ?_
          have hP : va_P D vwCl (mwd y ad zw (sI σ 2 (σ.1 2))) H := hP
          have hD : va_D A (mwd y ad zw (sI σ 2 (σ.1 2))) := hD
          exact x_iretW (v := (-1)) (u := (σ.1 2)) hx hb hr hQ ⟨rfl, by rw [LV_out (by omega)]; rfl⟩ hP hD hK hS dX12_look_76 hlocks
        · have kc_8 : (σ.1 2).toInt < (σ.1 3).toInt := by have h9 := c_8; simp only [ge_iff_le, gt_iff_lt, x_lt, x_le, x_eq, ne_eq, Int32.not_lt, Int32.not_le] at h9; omega
          refine lv_aload_n hx hb dX12_look_63 rfl (lv_at hl 0 rfl) ?_
          refine va_get (D := D) (ci := 11) (v := .ref (ad 0)) (C := RX12) (T := TX12) (N := 85) hx hb hts inX12 hown hK hP 0 mwd_o0 rfl 0 (by decide) fl7 (fun _ h9 => h9) rfl dX12_look_64 ?_
          refine lv_aload_n hx hb dX12_look_67 rfl (lv_at hl 0 rfl) ?_
          refine va_get (D := D) (ci := 11) (v := .int (σ.1 2)) (C := RX12) (T := TX12) (N := 85) hx hb hts inX12 hown hK hP 0 mwd_o0 rfl 2 (by decide) fl197 (fun _ h9 => h9) rfl dX12_look_68 ?_
          refine va_iald hx hb hK hP 1 2 mwd_a1 rfl (x_in (by omega) (by omega)) dX12_look_71 ?_
          refine lv_topi (fun i_9 ei_9 => ?_)
          have ei_9 : i_9 = (σ.2.2.1 0) (Int32.toNatClampNeg (σ.1 2)) := ei_9
          have qi_9 : i_9.toInt = ((σ.2.2.1 0) (σ.1 2).toInt.toNat).toInt := by rw [ei_9]; rfl
          have hsi_9 : ¬ (((σ.2.2.1 0) (σ.1 2).toInt.toNat).toInt = 10 ∨ ((σ.2.2.1 0) (σ.1 2).toInt.toNat).toInt = 32) := fun h9 => hsd ⟨by omega, h9⟩
          refine lv_goto (tgt := 76) hx hb dX12_look_72 (by decide) ?_
          have hP : va_P D vwCl (mwd y ad zw (sI σ 2 (σ.1 2))) H := hP
          have hD : va_D A (mwd y ad zw (sI σ 2 (σ.1 2))) := hD
          exact x_iretW (v := i_9) (u := (σ.1 2)) hx hb hr hQ ⟨rfl, by rw [LV_in (by omega)]; omega⟩ hP hD hK hS dX12_look_76 hlocks
      · have kc_7 : i_6.toInt = 32 := by have h9 := c_7; simp only [ge_iff_le, gt_iff_lt, x_lt, x_le, x_eq, ne_eq, Int32.not_lt, Int32.not_le] at h9; simp only [Int32.reduceToInt] at h9; omega
        exfalso
        omega

def v_q_takesSignN : List Cond := .code yX12_takesSign cX12_takesSign 2 (some .boolean) :: ([.fieldLink RX12 191 "SlopeRunnerModel" "bad" "I"] ++ ((wsV RX12 203 RX12 yX12_look v_q_look4) ++ wsX120))
theorem g_q_takesSignN_0 : GoodIn v_q_takesSignN (wsV RX12 203 RX12 yX12_look v_q_look4) := goodIn_sub (fun w h => List.mem_cons_of_mem _ (List.mem_append_right _ (List.mem_append_left _ h))) (by decide +kernel)
set_option maxHeartbeats 4000000 in
set_option maxRecDepth 100000 in
theorem q_takesSignN (l : Launch) (D : va_G) (y : Nat → ClassId) (sz : Nat) (ad : Nat → Nat) (zw : Nat → Nat → Int32) (σ : OS) (k : Int32) (hb0 : (σ.1 5).toInt = 0) (hsd : SD (σ.2.2.1 0) (σ.1 2).toInt (σ.1 3).toInt) (hne : LV (σ.2.2.1 0) (σ.1 2).toInt (σ.1 3).toInt ≠ k.toInt) (ha0 : 0 ≤ (σ.1 2).toInt) (ha1 : (σ.1 2).toInt ≤ (σ.1 3).toInt) (ha2 : (σ.1 3).toInt ≤ 700) : Met l yX12_takesSign v_q_takesSignN ({ frames := 1, cells := 0, slots := 0, locals := 20 } : Room) (va_Pc [.ref (ad 1), .int k] (xPre D (xT y) (mwd y ad zw σ) sz)) (va_Qi (fun (r : Int32) (u : Int32) => r.toInt = 0 ∧ u = (σ.1 2)) (fun (u : Int32) => xB D (xT y) (va_A (mwd y ad zw σ) sz) (mwd y ad zw (sI σ 2 u))) (va_A (mwd y ad zw σ) sz)) 0 0 (va_A (mwd y ad zw σ) sz) := by
  refine x_meti (cc := cX12_takesSign) (maxL := 2) (by decide) rfl (Nat.le_of_ble_eq_true rfl) ?_
  intro p e s m below meth c A H locs Q hx hb hml hown hts hr hlocks hmn hA hP hK hD hS ls hl hQ
  have hl : lv_has ls 2 [(0, .ref (ad 1)), (1, .int k)] := hl
  have fl191 := hts (.fieldLink RX12 191 "SlopeRunnerModel" "bad" "I") (List.mem_of_getElem? (i := 1) rfl)
  have inX12 : ∀ w ∈ wsX120, w ∈ v_q_takesSignN := (fun w h => List.mem_cons_of_mem _ (List.mem_append_right _ (List.mem_append_right _ h)))
  have kk_0 : (0 : Int32).toInt = 0 := rfl
  refine lv_aload_n hx hb dX12_takesSign_0 rfl (lv_at hl 0 rfl) ?_
  refine va_get (D := D) (ci := 11) (v := .int (σ.1 5)) (C := RX12) (T := TX12) (N := 85) hx hb hts inX12 hown hK hP 0 mwd_o0 rfl 5 (by decide) fl191 (fun _ h9 => h9) rfl dX12_takesSign_1 ?_
  refine lv_if_ne (tgt := 15) hx hb dX12_takesSign_4 (by decide) (fun c_1 => ?_) (fun c_1 => ?_)
  · have kc_1 : (σ.1 5).toInt ≠ 0 := by have h9 := c_1; simp only [ge_iff_le, gt_iff_lt, x_lt, x_le, x_eq, ne_eq, Int32.not_lt, Int32.not_le] at h9; simp only [Int32.reduceToInt] at h9; omega
    exfalso
    omega
  · have kc_1 : (σ.1 5).toInt = 0 := by have h9 := c_1; simp only [ge_iff_le, gt_iff_lt, x_lt, x_le, x_eq, ne_eq, Int32.not_lt, Int32.not_le] at h9; simp only [Int32.reduceToInt] at h9; omega
    refine lv_aload_n hx hb dX12_takesSign_7 rfl (lv_at hl 0 rfl) ?_
    refine x_calliW (va_runV (As := []) (rest := []) ⟨hx, hb, hml, hown, hts⟩ (q_look4 l D y H.size ad zw σ (show 0 ≤ ((σ.1 2)).toInt from by first | omega | decide) (show ((σ.1 2)).toInt ≤ ((σ.1 3)).toInt from by first | omega | decide) (show ((σ.1 3)).toInt ≤ 700 from by first | omega | decide) hsd) (cwV 0 hts g_q_takesSignN_0 rfl rfl rfl (by decide +kernel) ⟨Nat.le_of_ble_eq_true rfl, Nat.le_of_ble_eq_true rfl⟩) (x_preV (q := (RX12, TX12, 85)) hK hP hD (ci := 11) (q0 := 0) rfl mwd_o0) rfl rfl hl.1 rfl (lv_room (Nat.le_of_ble_eq_true rfl)) dX12_takesSign_8 ⟨Nat.le_of_ble_eq_true rfl, Nat.le_of_ble_eq_true rfl⟩) hP hD hS hA (fun r_2 u H locs hw hP hD hS => ?_)
    obtain ⟨n_3, rfl⟩ : ∃ z9, z9 = u := ⟨_, rfl⟩
    try dsimp only at hw
    have hP : va_P D vwCl (mwd y ad zw (sI σ 2 n_3)) H := hP
    have hD : va_D A (mwd y ad zw (sI σ 2 n_3)) := hD
    replace hw : n_3 = ((σ.1 2)) ∧ r_2.toInt = LV ((σ.2.2.1 0)) ((σ.1 2)).toInt ((σ.1 3)).toInt := hw
    refine lv_iload_n hx hb dX12_takesSign_11 rfl (lv_at hl 1 rfl) ?_
    refine lv_icmp_eq (tgt := 17) hx hb dX12_takesSign_12 (by decide) (fun c_4 => ?_) (fun c_4 => ?_)
    · have kc_4 : r_2.toInt = k.toInt := by have h9 := c_4; simp only [ge_iff_le, gt_iff_lt, x_lt, x_le, x_eq, ne_eq, Int32.not_lt, Int32.not_le] at h9; omega
      exfalso
      omega
    · have kc_4 : r_2.toInt ≠ k.toInt := by have h9 := c_4; simp only [ge_iff_le, gt_iff_lt, x_lt, x_le, x_eq, ne_eq, Int32.not_lt, Int32.not_le] at h9; omega
      refine lv_iconst (v := 0) hx hb dX12_takesSign_15 (by decide) ?_
      exact x_zretW (v := 0) (u := n_3) hx hb hr hQ rfl ⟨rfl, hw.1⟩ hP hD hK hS dX12_takesSign_16 hlocks

def v_q_asksSignN : List Cond := .code yX12_asksSign cX12_asksSign 2 none :: ([.fieldLink RX12 191 "SlopeRunnerModel" "bad" "I", .fieldLink RX12 197 "SlopeRunnerModel" "at" "I"] ++ ((wsV RX12 225 RX12 yX12_takesSign v_q_takesSignN) ++ ((wsV RX12 221 RX12 yX12_fail v_q_fail) ++ wsX120)))
theorem g_q_asksSignN_0 : GoodIn v_q_asksSignN (wsV RX12 225 RX12 yX12_takesSign v_q_takesSignN) := goodIn_sub (fun w h => List.mem_cons_of_mem _ (List.mem_append_right _ (List.mem_append_left _ h))) (by decide +kernel)
theorem g_q_asksSignN_1 : GoodIn v_q_asksSignN (wsV RX12 221 RX12 yX12_fail v_q_fail) := goodIn_sub (fun w h => List.mem_cons_of_mem _ (List.mem_append_right _ (List.mem_append_right _ (List.mem_append_left _ h)))) (by decide +kernel)
set_option maxHeartbeats 4000000 in
set_option maxRecDepth 100000 in
theorem q_asksSignN (l : Launch) (D : va_G) (y : Nat → ClassId) (sz : Nat) (ad : Nat → Nat) (zw : Nat → Nat → Int32) (σ : OS) (k : Int32) (hb0 : (σ.1 5).toInt = 0) (hsd : SD (σ.2.2.1 0) (σ.1 2).toInt (σ.1 3).toInt) (hne : LV (σ.2.2.1 0) (σ.1 2).toInt (σ.1 3).toInt ≠ k.toInt) (ha0 : 0 ≤ (σ.1 2).toInt) (ha1 : (σ.1 2).toInt ≤ (σ.1 3).toInt) (ha2 : (σ.1 3).toInt ≤ 700) : Met l yX12_asksSign v_q_asksSignN ({ frames := 2, cells := 0, slots := 0, locals := 41 } : Room) (va_Pc [.ref (ad 1), .int k] (xPre D (xT y) (mwd y ad zw σ) sz)) (va_Qv (fun (u : Int32 × Int32 × Int32) => u.1 = (σ.1 2) ∧ u.2.1.toInt ≠ 0) (fun (u : Int32 × Int32 × Int32) => xB D (xT y) (va_A (mwd y ad zw σ) sz) (mwd y ad zw (sI (sI (sI σ 2 u.1) 5 u.2.1) 6 u.2.2))) (va_A (mwd y ad zw σ) sz)) 0 0 (va_A (mwd y ad zw σ) sz) := by
  refine x_metv (cc := cX12_asksSign) (maxL := 2) (by decide) rfl (Nat.le_of_ble_eq_true rfl) ?_
  intro p e s m below meth c A H locs Q hx hb hml hown hts hr hlocks hmn hA hP hK hD hS ls hl hQ
  have hl : lv_has ls 2 [(0, .ref (ad 1)), (1, .int k)] := hl
  have fl191 := hts (.fieldLink RX12 191 "SlopeRunnerModel" "bad" "I") (List.mem_of_getElem? (i := 1) rfl)
  have inX12 : ∀ w ∈ wsX120, w ∈ v_q_asksSignN := (fun w h => List.mem_cons_of_mem _ (List.mem_append_right _ (List.mem_append_right _ (List.mem_append_right _ h))))
  have kk_0 : (0 : Int32).toInt = 0 := rfl
  have fl197 := hts (.fieldLink RX12 197 "SlopeRunnerModel" "at" "I") (List.mem_of_getElem? (i := 2) rfl)
  have kk_1 : (1 : Int32).toInt = 1 := rfl
  refine lv_aload_n hx hb dX12_asksSign_0 rfl (lv_at hl 0 rfl) ?_
  refine va_get (D := D) (ci := 11) (v := .int (σ.1 5)) (C := RX12) (T := TX12) (N := 85) hx hb hts inX12 hown hK hP 0 mwd_o0 rfl 5 (by decide) fl191 (fun _ h9 => h9) rfl dX12_asksSign_1 ?_
  refine lv_if_ne (tgt := 24) hx hb dX12_asksSign_4 (by decide) (fun c_1 => ?_) (fun c_1 => ?_)
  · have kc_1 : (σ.1 5).toInt ≠ 0 := by have h9 := c_1; simp only [ge_iff_le, gt_iff_lt, x_lt, x_le, x_eq, ne_eq, Int32.not_lt, Int32.not_le] at h9; simp only [Int32.reduceToInt] at h9; omega
    exfalso
    omega
  · have kc_1 : (σ.1 5).toInt = 0 := by have h9 := c_1; simp only [ge_iff_le, gt_iff_lt, x_lt, x_le, x_eq, ne_eq, Int32.not_lt, Int32.not_le] at h9; simp only [Int32.reduceToInt] at h9; omega
    refine lv_aload_n hx hb dX12_asksSign_7 rfl (lv_at hl 0 rfl) ?_
    refine lv_iload_n hx hb dX12_asksSign_8 rfl (lv_at hl 1 rfl) ?_
    refine x_calliW (va_runV (As := [.int k]) (rest := []) ⟨hx, hb, hml, hown, hts⟩ (q_takesSignN l D y H.size ad zw σ k (show ((σ.1 5)).toInt = 0 from by first | omega | decide) hsd hne (show 0 ≤ ((σ.1 2)).toInt from by first | omega | decide) (show ((σ.1 2)).toInt ≤ ((σ.1 3)).toInt from by first | omega | decide) (show ((σ.1 3)).toInt ≤ 700 from by first | omega | decide)) (cwV 1 hts g_q_asksSignN_0 rfl rfl rfl (by decide +kernel) ⟨Nat.le_of_ble_eq_true rfl, Nat.le_of_ble_eq_true rfl⟩) (x_preV (q := (RX12, TX12, 85)) hK hP hD (ci := 11) (q0 := 0) rfl mwd_o0) rfl rfl hl.1 rfl (lv_room (Nat.le_of_ble_eq_true rfl)) dX12_asksSign_9 ⟨Nat.le_of_ble_eq_true rfl, Nat.le_of_ble_eq_true rfl⟩) hP hD hS hA (fun r_2 u H locs hw hP hD hS => ?_)
    obtain ⟨n_3, rfl⟩ : ∃ z9, z9 = u := ⟨_, rfl⟩
    try dsimp only at hw
    have hP : va_P D vwCl (mwd y ad zw (sI σ 2 n_3)) H := hP
    have hD : va_D A (mwd y ad zw (sI σ 2 n_3)) := hD
    replace hw : r_2.toInt = 0 ∧ n_3 = ((σ.1 2)) := hw
    obtain ⟨hr0, hat⟩ := hw
    refine lv_if_ne (tgt := 24) hx hb dX12_asksSign_12 (by decide) (fun c_4 => ?_) (fun c_4 => ?_)
    · have kc_4 : r_2.toInt ≠ 0 := by have h9 := c_4; simp only [ge_iff_le, gt_iff_lt, x_lt, x_le, x_eq, ne_eq, Int32.not_lt, Int32.not_le] at h9; simp only [Int32.reduceToInt] at h9; omega
      exfalso
      omega
    · have kc_4 : r_2.toInt = 0 := by have h9 := c_4; simp only [ge_iff_le, gt_iff_lt, x_lt, x_le, x_eq, ne_eq, Int32.not_lt, Int32.not_le] at h9; simp only [Int32.reduceToInt] at h9; omega
      refine lv_aload_n hx hb dX12_asksSign_15 rfl (lv_at hl 0 rfl) ?_
      refine lv_iconst (v := 1) hx hb dX12_asksSign_16 (by decide) ?_
      refine lv_aload_n hx hb dX12_asksSign_17 rfl (lv_at hl 0 rfl) ?_
      refine va_get (D := D) (ci := 11) (v := .int n_3) (C := RX12) (T := TX12) (N := 85) hx hb hts inX12 hown hK hP 0 mwd_o0 rfl 2 (by decide) fl197 (fun _ h9 => h9) rfl dX12_asksSign_18 ?_
      refine x_callvW (va_runV (As := [.int 1, .int n_3]) (rest := []) ⟨hx, hb, hml, hown, hts⟩ (q_fail l D y H.size ad zw (sI σ 2 n_3) 1 n_3) (cwV 2 hts g_q_asksSignN_1 rfl rfl rfl (by decide +kernel) ⟨Nat.le_of_ble_eq_true rfl, Nat.le_of_ble_eq_true rfl⟩) (x_preV (q := (RX12, TX12, 85)) hK hP hD (ci := 11) (q0 := 0) rfl mwd_o0) rfl rfl hl.1 rfl (lv_room (Nat.le_of_ble_eq_true rfl)) dX12_asksSign_21 ⟨Nat.le_of_ble_eq_true rfl, Nat.le_of_ble_eq_true rfl⟩) hP hD hS hA (fun u H locs hw hP hD hS => ?_)
      obtain ⟨b_5, b_6⟩ := u
      try dsimp only at hw
      have hP : va_P D vwCl (mwd y ad zw (sI (sI (sI σ 2 n_3) 5 b_5) 6 b_6)) H := hP
      have hD : va_D A (mwd y ad zw (sI (sI (sI σ 2 n_3) 5 b_5) 6 b_6)) := hD
      replace hw : b_5 = if (σ.1 5) = 0 then (1 : Int32) else (σ.1 5) := hw
      have hbd : b_5.toInt ≠ 0 := by rw [hw]; split <;> first | decide | (rename_i h9; intro h8; exact h9 (Int32.toInt_inj.mp (by rw [h8]; rfl)))
      exact x_vretW (u := (n_3, b_5, b_6)) hx hb hr hQ (by (try dsimp only); exact ⟨hat, by omega⟩) hP hD hK hS dX12_asksSign_24 hlocks

def v_q_tells : List Cond := .code yX12_tells cX12_tells 4 none :: ([.fieldLink RX12 332 "SlopeRunnerModel" "blocks" "I", .fieldLink RX12 60 "SlopeRunnerModel" "has" "[I"] ++ ((wsV RX12 221 RX12 yX12_fail v_q_fail) ++ wsX120))
theorem g_q_tells_0 : GoodIn v_q_tells (wsV RX12 221 RX12 yX12_fail v_q_fail) := goodIn_sub (fun w h => List.mem_cons_of_mem _ (List.mem_append_right _ (List.mem_append_left _ h))) (by decide +kernel)
set_option maxHeartbeats 4000000 in
set_option maxRecDepth 100000 in
theorem q_tells (l : Launch) (D : va_G) (y : Nat → ClassId) (sz : Nat) (ad : Nat → Nat) (zw : Nat → Nat → Int32) (σ : OS) (wh mo pl : Int32) (hwh0 : 0 ≤ wh.toInt) (hwh1 : wh.toInt ≤ 2) : Met l yX12_tells v_q_tells ({ frames := 1, cells := 0, slots := 0, locals := 22 } : Room) (va_Pc [.ref (ad 1), .int wh, .int mo, .int pl] (xPre D (xT y) (mwd y ad zw σ) sz)) (va_Qv (fun (u : Int32 × Int32) => u.1.toInt ≠ 0 ∨ (u.1 = (σ.1 5) ∧ (σ.1 39).toInt ≤ 0 ∧ (σ.2.2.1 24 wh.toInt.toNat).toInt ≠ mo.toInt)) (fun (u : Int32 × Int32) => xB D (xT y) (va_A (mwd y ad zw σ) sz) (mwd y ad zw (sI (sI σ 5 u.1) 6 u.2))) (va_A (mwd y ad zw σ) sz)) 0 0 (va_A (mwd y ad zw σ) sz) := by
  refine x_metv (cc := cX12_tells) (maxL := 4) (by decide) rfl (Nat.le_of_ble_eq_true rfl) ?_
  intro p e s m below meth c A H locs Q hx hb hml hown hts hr hlocks hmn hA hP hK hD hS ls hl hQ
  have hl : lv_has ls 4 [(0, .ref (ad 1)), (1, .int wh), (2, .int mo), (3, .int pl)] := hl
  have fl332 := hts (.fieldLink RX12 332 "SlopeRunnerModel" "blocks" "I") (List.mem_of_getElem? (i := 1) rfl)
  have inX12 : ∀ w ∈ wsX120, w ∈ v_q_tells := (fun w h => List.mem_cons_of_mem _ (List.mem_append_right _ (List.mem_append_right _ h)))
  have kk_0 : (0 : Int32).toInt = 0 := rfl
  have fl60 := hts (.fieldLink RX12 60 "SlopeRunnerModel" "has" "[I") (List.mem_of_getElem? (i := 2) rfl)
  have kk_5 : (5 : Int32).toInt = 5 := rfl
  have kk_1 : (1 : Int32).toInt = 1 := rfl
  refine lv_aload_n hx hb dX12_tells_0 rfl (lv_at hl 0 rfl) ?_
  refine va_get (D := D) (ci := 11) (v := .int (σ.1 39)) (C := RX12) (T := TX12) (N := 85) hx hb hts inX12 hown hK hP 0 mwd_o0 rfl 39 (by decide) fl332 (fun _ h9 => h9) rfl dX12_tells_1 ?_
  refine lv_if_le (tgt := 16) hx hb dX12_tells_4 (by decide) (fun c_1 => ?_) (fun c_1 => ?_)
  · have kc_1 : (σ.1 39).toInt ≤ 0 := by have h9 := c_1; simp only [ge_iff_le, gt_iff_lt, x_lt, x_le, x_eq, ne_eq, Int32.not_lt, Int32.not_le] at h9; simp only [Int32.reduceToInt] at h9; omega
    refine lv_aload_n hx hb dX12_tells_16 rfl (lv_at hl 0 rfl) ?_
    refine va_get (D := D) (ci := 11) (v := .ref (ad 24)) (C := RX12) (T := TX12) (N := 85) hx hb hts inX12 hown hK hP 0 mwd_o0 rfl 24 (by decide) fl60 (fun _ h9 => h9) rfl dX12_tells_17 ?_
    refine lv_iconst (v := 0) hx hb dX12_tells_20 (by decide) ?_
    refine lv_iload_n hx hb dX12_tells_21 rfl (lv_at hl 1 rfl) ?_
    refine lv_iadd hx hb dX12_tells_22 ?_
    refine lv_topi (fun i_2 ei_2 => ?_)
    have vi_2 : i_2.toInt = 0 + wh.toInt := by have h9 := x_add ei_2 (by omega) (by omega); omega
    refine va_iald hx hb hK hP 16 2 mwd_a16 rfl (x_in (by omega) (by omega)) dX12_tells_23 ?_
    refine lv_topi (fun i_3 ei_3 => ?_)
    have ei_3 : i_3 = (σ.2.2.1 24) (Int32.toNatClampNeg i_2) := ei_3
    have qi_3 : i_3.toInt = (σ.2.2.1 24 wh.toInt.toNat).toInt := by rw [ei_3, x_cl (n := wh.toInt.toNat) (by omega)]
    refine lv_iload_n hx hb dX12_tells_24 rfl (lv_at hl 2 rfl) ?_
    refine lv_icmp_ne (tgt := 34) hx hb dX12_tells_25 (by decide) (fun c_4 => ?_) (fun c_4 => ?_)
    · have kc_4 : i_3.toInt ≠ mo.toInt := by have h9 := c_4; simp only [ge_iff_le, gt_iff_lt, x_lt, x_le, x_eq, ne_eq, Int32.not_lt, Int32.not_le] at h9; omega
      have hP : va_P D vwCl (mwd y ad zw (sI (sI σ 5 (σ.1 5)) 6 (σ.1 6))) H := hP
      have hD : va_D A (mwd y ad zw (sI (sI σ 5 (σ.1 5)) 6 (σ.1 6))) := hD
      exact x_vretW (u := ((σ.1 5), (σ.1 6))) hx hb hr hQ (by (try dsimp only); exact Or.inr ⟨rfl, by omega, by omega⟩) hP hD hK hS dX12_tells_34 hlocks
    · have kc_4 : i_3.toInt = mo.toInt := by have h9 := c_4; simp only [ge_iff_le, gt_iff_lt, x_lt, x_le, x_eq, ne_eq, Int32.not_lt, Int32.not_le] at h9; omega
      refine lv_aload_n hx hb dX12_tells_28 rfl (lv_at hl 0 rfl) ?_
      refine lv_iconst (v := 5) hx hb dX12_tells_29 (by decide) ?_
      refine lv_iload_n hx hb dX12_tells_30 rfl (lv_at hl 3 rfl) ?_
      refine x_callvW (va_runV (As := [.int 5, .int pl]) (rest := []) ⟨hx, hb, hml, hown, hts⟩ (q_fail l D y H.size ad zw σ 5 pl) (cwV 2 hts g_q_tells_0 rfl rfl rfl (by decide +kernel) ⟨Nat.le_of_ble_eq_true rfl, Nat.le_of_ble_eq_true rfl⟩) (x_preV (q := (RX12, TX12, 85)) hK hP hD (ci := 11) (q0 := 0) rfl mwd_o0) rfl rfl hl.1 rfl (lv_room (Nat.le_of_ble_eq_true rfl)) dX12_tells_31 ⟨Nat.le_of_ble_eq_true rfl, Nat.le_of_ble_eq_true rfl⟩) hP hD hS hA (fun u H locs hw hP hD hS => ?_)
      obtain ⟨b_5, b_6⟩ := u
      try dsimp only at hw
      have hP : va_P D vwCl (mwd y ad zw (sI (sI σ 5 b_5) 6 b_6)) H := hP
      have hD : va_D A (mwd y ad zw (sI (sI σ 5 b_5) 6 b_6)) := hD
      replace hw : b_5 = if (σ.1 5) = 0 then (5 : Int32) else (σ.1 5) := hw
      have hbd : b_5.toInt ≠ 0 := by rw [hw]; split <;> first | decide | (rename_i h9; intro h8; exact h9 (Int32.toInt_inj.mp (by rw [h8]; rfl)))
      exact x_vretW (u := (b_5, b_6)) hx hb hr hQ (by (try dsimp only); exact Or.inl (by omega)) hP hD hK hS dX12_tells_34 hlocks
  · have kc_1 : (σ.1 39).toInt > 0 := by have h9 := c_1; simp only [ge_iff_le, gt_iff_lt, x_lt, x_le, x_eq, ne_eq, Int32.not_lt, Int32.not_le] at h9; simp only [Int32.reduceToInt] at h9; omega
    refine lv_aload_n hx hb dX12_tells_7 rfl (lv_at hl 0 rfl) ?_
    refine lv_iconst (v := 1) hx hb dX12_tells_8 (by decide) ?_
    refine lv_iload_n hx hb dX12_tells_9 rfl (lv_at hl 3 rfl) ?_
    refine x_callvW (va_runV (As := [.int 1, .int pl]) (rest := []) ⟨hx, hb, hml, hown, hts⟩ (q_fail l D y H.size ad zw σ 1 pl) (cwV 2 hts g_q_tells_0 rfl rfl rfl (by decide +kernel) ⟨Nat.le_of_ble_eq_true rfl, Nat.le_of_ble_eq_true rfl⟩) (x_preV (q := (RX12, TX12, 85)) hK hP hD (ci := 11) (q0 := 0) rfl mwd_o0) rfl rfl hl.1 rfl (lv_room (Nat.le_of_ble_eq_true rfl)) dX12_tells_10 ⟨Nat.le_of_ble_eq_true rfl, Nat.le_of_ble_eq_true rfl⟩) hP hD hS hA (fun u H locs hw hP hD hS => ?_)
    obtain ⟨b_7, b_8⟩ := u
    try dsimp only at hw
    have hP : va_P D vwCl (mwd y ad zw (sI (sI σ 5 b_7) 6 b_8)) H := hP
    have hD : va_D A (mwd y ad zw (sI (sI σ 5 b_7) 6 b_8)) := hD
    replace hw : b_7 = if (σ.1 5) = 0 then (1 : Int32) else (σ.1 5) := hw
    have hbd : b_7.toInt ≠ 0 := by rw [hw]; split <;> first | decide | (rename_i h9; intro h8; exact h9 (Int32.toInt_inj.mp (by rw [h8]; rfl)))
    refine lv_goto (tgt := 34) hx hb dX12_tells_13 (by decide) ?_
    exact x_vretW (u := (b_7, b_8)) hx hb hr hQ (by (try dsimp only); exact Or.inl (by omega)) hP hD hK hS dX12_tells_34 hlocks

def v_q_block : List Cond := .code yX12_block cX12_block 3 none :: ([.fieldLink RX12 191 "SlopeRunnerModel" "bad" "I", .fieldLink RX12 260 "SlopeRunnerModel" "open" "I", .fieldLink RX12 85 "SlopeRunnerModel" "blockSort" "[I", .fieldLink RX12 332 "SlopeRunnerModel" "blocks" "I", .fieldLink RX12 88 "SlopeRunnerModel" "blockFrom" "[I", .fieldLink RX12 91 "SlopeRunnerModel" "blockJump" "[I", .fieldLink RX12 246 "SlopeRunnerModel" "coded" "I", .fieldLink RX12 197 "SlopeRunnerModel" "at" "I"] ++ ((wsV RX12 203 RX12 yX12_look v_q_look3) ++ ((wsV RX12 286 RX12 yX12_asksSign v_q_asksSignN) ++ ((wsV RX12 286 RX12 yX12_asksSign v_q_asksSign) ++ ((wsV RX12 266 RX12 yX12_code v_q_code) ++ ((wsV RX12 221 RX12 yX12_fail v_q_fail) ++ wsX120))))))
theorem g_q_block_0 : GoodIn v_q_block (wsV RX12 203 RX12 yX12_look v_q_look3) := goodIn_sub (fun w h => List.mem_cons_of_mem _ (List.mem_append_right _ (List.mem_append_left _ h))) (by decide +kernel)
theorem g_q_block_1 : GoodIn v_q_block (wsV RX12 286 RX12 yX12_asksSign v_q_asksSignN) := goodIn_sub (fun w h => List.mem_cons_of_mem _ (List.mem_append_right _ (List.mem_append_right _ (List.mem_append_left _ h)))) (by decide +kernel)
theorem g_q_block_2 : GoodIn v_q_block (wsV RX12 286 RX12 yX12_asksSign v_q_asksSign) := goodIn_sub (fun w h => List.mem_cons_of_mem _ (List.mem_append_right _ (List.mem_append_right _ (List.mem_append_right _ (List.mem_append_left _ h))))) (by decide +kernel)
theorem g_q_block_3 : GoodIn v_q_block (wsV RX12 266 RX12 yX12_code v_q_code) := goodIn_sub (fun w h => List.mem_cons_of_mem _ (List.mem_append_right _ (List.mem_append_right _ (List.mem_append_right _ (List.mem_append_right _ (List.mem_append_left _ h)))))) (by decide +kernel)
theorem g_q_block_4 : GoodIn v_q_block (wsV RX12 221 RX12 yX12_fail v_q_fail) := goodIn_sub (fun w h => List.mem_cons_of_mem _ (List.mem_append_right _ (List.mem_append_right _ (List.mem_append_right _ (List.mem_append_right _ (List.mem_append_right _ (List.mem_append_left _ h))))))) (by decide +kernel)
set_option maxHeartbeats 4000000 in
set_option maxRecDepth 100000 in
theorem q_block (l : Launch) (D : va_G) (y : Nat → ClassId) (sz : Nat) (ad : Nat → Nat) (zw : Nat → Nat → Int32) (σ : OS) (wh fr : Int32) (hwn : wh.toInt ≠ 1) (ha0 : 0 ≤ (σ.1 2).toInt) (ha1 : (σ.1 2).toInt ≤ (σ.1 3).toInt) (ha2 : (σ.1 3).toInt ≤ 700) (hb0 : (σ.1 5).toInt = 0) (hbo : (σ.1 39).toInt = (σ.1 32).toInt) (hbl0 : 0 ≤ (σ.1 39).toInt) (ho1 : (σ.1 32).toInt ≤ 8) (hc0 : 0 ≤ (σ.1 29).toInt) (hc1 : (σ.1 29).toInt < 1190) : Met l yX12_block v_q_block ({ frames := 3, cells := 0, slots := 0, locals := 62 } : Room) (va_Pc [.ref (ad 1), .int wh, .int fr] (xPre D (xT y) (mwd y ad zw σ) sz)) (va_Qv (fun (u : Int32 × Int32 × Int32 × Int32 × Int32 × (Nat → Int32) × (Nat → Int32) × (Nat → Int32) × (Nat → Int32) × Int32) => (σ.1 2).toInt ≤ u.1.toInt ∧ u.1.toInt ≤ (σ.1 3).toInt ∧ ((u.2.1.toInt ≠ 0 ∧ u.2.2.2.2.1 = (σ.1 29)) ∨ (u.2.1.toInt = 0 ∧ (σ.1 2).toInt + 1 ≤ u.1.toInt ∧ u.2.2.2.1.toInt = (σ.1 32).toInt + 1 ∧ u.2.2.2.1.toInt ≤ 8 ∧ u.2.2.2.2.2.2.2.2.2.toInt = (σ.1 39).toInt + 1 ∧ u.2.2.2.2.1.toInt = (σ.1 29).toInt + 2 ∧ u.2.2.2.2.2.1 = upd (upd (σ.2.2.1 27) (σ.1 29).toInt.toNat 501) ((σ.1 29).toInt.toNat + 1) 0 ∧ u.2.2.2.2.2.2.1 = upd (σ.2.2.1 36) (σ.1 39).toInt.toNat wh ∧ u.2.2.2.2.2.2.2.1 = upd (σ.2.2.1 37) (σ.1 39).toInt.toNat fr ∧ ∃ z9 : Int32, u.2.2.2.2.2.2.2.2.1 = upd (σ.2.2.1 38) (σ.1 39).toInt.toNat z9 ∧ z9.toInt = (σ.1 29).toInt + 1))) (fun (u : Int32 × Int32 × Int32 × Int32 × Int32 × (Nat → Int32) × (Nat → Int32) × (Nat → Int32) × (Nat → Int32) × Int32) => xB D (xT y) (va_A (mwd y ad zw σ) sz) (mwd y ad zw (sI (tI (tI (tI (tI (sI (sI (sI (sI (sI σ 2 u.1) 5 u.2.1) 6 u.2.2.1) 32 u.2.2.2.1) 29 u.2.2.2.2.1) 27 u.2.2.2.2.2.1) 36 u.2.2.2.2.2.2.1) 37 u.2.2.2.2.2.2.2.1) 38 u.2.2.2.2.2.2.2.2.1) 39 u.2.2.2.2.2.2.2.2.2))) (va_A (mwd y ad zw σ) sz)) 0 0 (va_A (mwd y ad zw σ) sz) := by
  refine x_metv (cc := cX12_block) (maxL := 3) (by decide) rfl (Nat.le_of_ble_eq_true rfl) ?_
  intro p e s m below meth c A H locs Q hx hb hml hown hts hr hlocks hmn hA hP hK hD hS ls hl hQ
  have hl : lv_has ls 3 [(0, .ref (ad 1)), (1, .int wh), (2, .int fr)] := hl
  have fl191 := hts (.fieldLink RX12 191 "SlopeRunnerModel" "bad" "I") (List.mem_of_getElem? (i := 1) rfl)
  have inX12 : ∀ w ∈ wsX120, w ∈ v_q_block := (fun w h => List.mem_cons_of_mem _ (List.mem_append_right _ (List.mem_append_right _ (List.mem_append_right _ (List.mem_append_right _ (List.mem_append_right _ (List.mem_append_right _ h)))))))
  have kk_0 : (0 : Int32).toInt = 0 := rfl
  have kk_123 : (123 : Int32).toInt = 123 := rfl
  have fl260 := hts (.fieldLink RX12 260 "SlopeRunnerModel" "open" "I") (List.mem_of_getElem? (i := 2) rfl)
  have kk_8 : (8 : Int32).toInt = 8 := rfl
  have kk_1 : (1 : Int32).toInt = 1 := rfl
  have fl85 := hts (.fieldLink RX12 85 "SlopeRunnerModel" "blockSort" "[I") (List.mem_of_getElem? (i := 3) rfl)
  have fl332 := hts (.fieldLink RX12 332 "SlopeRunnerModel" "blocks" "I") (List.mem_of_getElem? (i := 4) rfl)
  have fl88 := hts (.fieldLink RX12 88 "SlopeRunnerModel" "blockFrom" "[I") (List.mem_of_getElem? (i := 5) rfl)
  have kk_501 : (501 : Int32).toInt = 501 := rfl
  have fl91 := hts (.fieldLink RX12 91 "SlopeRunnerModel" "blockJump" "[I") (List.mem_of_getElem? (i := 6) rfl)
  have fl246 := hts (.fieldLink RX12 246 "SlopeRunnerModel" "coded" "I") (List.mem_of_getElem? (i := 7) rfl)
  have fl197 := hts (.fieldLink RX12 197 "SlopeRunnerModel" "at" "I") (List.mem_of_getElem? (i := 8) rfl)
  have kk_4 : (4 : Int32).toInt = 4 := rfl
  refine lv_aload_n hx hb dX12_block_0 rfl (lv_at hl 0 rfl) ?_
  refine va_get (D := D) (ci := 11) (v := .int (σ.1 5)) (C := RX12) (T := TX12) (N := 85) hx hb hts inX12 hown hK hP 0 mwd_o0 rfl 5 (by decide) fl191 (fun _ h9 => h9) rfl dX12_block_1 ?_
  refine lv_if_ne (tgt := 34) hx hb dX12_block_4 (by decide) (fun c_1 => ?_) (fun c_1 => ?_)
  · have kc_1 : (σ.1 5).toInt ≠ 0 := by have h9 := c_1; simp only [ge_iff_le, gt_iff_lt, x_lt, x_le, x_eq, ne_eq, Int32.not_lt, Int32.not_le] at h9; simp only [Int32.reduceToInt] at h9; omega
    exfalso
    omega
  · have kc_1 : (σ.1 5).toInt = 0 := by have h9 := c_1; simp only [ge_iff_le, gt_iff_lt, x_lt, x_le, x_eq, ne_eq, Int32.not_lt, Int32.not_le] at h9; simp only [Int32.reduceToInt] at h9; omega
    refine lv_aload_n hx hb dX12_block_7 rfl (lv_at hl 0 rfl) ?_
    refine x_calliW (va_runV (As := []) (rest := []) ⟨hx, hb, hml, hown, hts⟩ (q_look3 l D y H.size ad zw σ (show 0 ≤ ((σ.1 2)).toInt from by first | omega | decide) (show ((σ.1 2)).toInt ≤ ((σ.1 3)).toInt from by first | omega | decide) (show ((σ.1 3)).toInt ≤ 700 from by first | omega | decide)) (cwV 0 hts g_q_block_0 rfl rfl rfl (by decide +kernel) ⟨Nat.le_of_ble_eq_true rfl, Nat.le_of_ble_eq_true rfl⟩) (x_preV (q := (RX12, TX12, 85)) hK hP hD (ci := 11) (q0 := 0) rfl mwd_o0) rfl rfl hl.1 rfl (lv_room (Nat.le_of_ble_eq_true rfl)) dX12_block_8 ⟨Nat.le_of_ble_eq_true rfl, Nat.le_of_ble_eq_true rfl⟩) hP hD hS hA (fun r_2 u H locs hw hP hD hS => ?_)
    obtain ⟨n_3, rfl⟩ : ∃ z9, z9 = u := ⟨_, rfl⟩
    try dsimp only at hw
    have hP : va_P D vwCl (mwd y ad zw (sI σ 2 n_3)) H := hP
    have hD : va_D A (mwd y ad zw (sI σ 2 n_3)) := hD
    replace hw : ((σ.1 2)).toInt ≤ n_3.toInt ∧ n_3.toInt ≤ ((σ.1 3)).toInt ∧ SD ((σ.2.2.1 0)) n_3.toInt ((σ.1 3)).toInt ∧ r_2.toInt = LV ((σ.2.2.1 0)) n_3.toInt ((σ.1 3)).toInt := hw
    obtain ⟨hk1, hk2, hk3, hk4⟩ := hw
    refine lv_bipush (v := 123) hx hb dX12_block_11 (by decide) ?_
    refine lv_icmp_ne (tgt := 34) hx hb dX12_block_13 (by decide) (fun c_4 => ?_) (fun c_4 => ?_)
    · have kc_4 : r_2.toInt ≠ 123 := by have h9 := c_4; simp only [ge_iff_le, gt_iff_lt, x_lt, x_le, x_eq, ne_eq, Int32.not_lt, Int32.not_le] at h9; simp only [Int32.reduceToInt] at h9; omega
      refine lv_aload_n hx hb dX12_block_34 rfl (lv_at hl 0 rfl) ?_
      refine lv_bipush (v := 123) hx hb dX12_block_35 (by decide) ?_
      refine x_callvW (va_runV (As := [.int 123]) (rest := []) ⟨hx, hb, hml, hown, hts⟩ (q_asksSignN l D y H.size ad zw (sI σ 2 n_3) 123 (show ((σ.1 5)).toInt = 0 from by first | omega | decide) hk3 (show LV (σ.2.2.1 0) n_3.toInt (σ.1 3).toInt ≠ (123 : Int32).toInt from by have l123 : (123 : Int32).toInt = 123 := rfl; omega) (show 0 ≤ (n_3).toInt from by first | omega | decide) (show (n_3).toInt ≤ ((σ.1 3)).toInt from by first | omega | decide) (show ((σ.1 3)).toInt ≤ 700 from by first | omega | decide)) (cwV 1 hts g_q_block_1 rfl rfl rfl (by decide +kernel) ⟨Nat.le_of_ble_eq_true rfl, Nat.le_of_ble_eq_true rfl⟩) (x_preV (q := (RX12, TX12, 85)) hK hP hD (ci := 11) (q0 := 0) rfl mwd_o0) rfl rfl hl.1 rfl (lv_room (Nat.le_of_ble_eq_true rfl)) dX12_block_37 ⟨Nat.le_of_ble_eq_true rfl, Nat.le_of_ble_eq_true rfl⟩) hP hD hS hA (fun u H locs hw hP hD hS => ?_)
      obtain ⟨n_5, n_6, n_7⟩ := u
      try dsimp only at hw
      have hP : va_P D vwCl (mwd y ad zw (sI (sI (sI (sI σ 2 n_3) 2 n_5) 5 n_6) 6 n_7)) H := hP
      have hD : va_D A (mwd y ad zw (sI (sI (sI (sI σ 2 n_3) 2 n_5) 5 n_6) 6 n_7)) := hD
      replace hw : n_5 = (n_3) ∧ n_6.toInt ≠ 0 := hw
      obtain ⟨hz1, hz2⟩ := hw
      have hz3 : n_5.toInt = n_3.toInt := by rw [hz1]
      refine lv_aload_n hx hb dX12_block_40 rfl (lv_at hl 0 rfl) ?_
      refine va_get (D := D) (ci := 11) (v := .int n_6) (C := RX12) (T := TX12) (N := 85) hx hb hts inX12 hown hK hP 0 mwd_o0 rfl 5 (by decide) fl191 (fun _ h9 => h9) rfl dX12_block_41 ?_
      refine lv_if_eq (tgt := 48) hx hb dX12_block_44 (by decide) (fun c_8 => ?_) (fun c_8 => ?_)
      · have kc_8 : n_6.toInt = 0 := by have h9 := c_8; simp only [ge_iff_le, gt_iff_lt, x_lt, x_le, x_eq, ne_eq, Int32.not_lt, Int32.not_le] at h9; simp only [Int32.reduceToInt] at h9; omega
        exfalso
        omega
      · have kc_8 : n_6.toInt ≠ 0 := by have h9 := c_8; simp only [ge_iff_le, gt_iff_lt, x_lt, x_le, x_eq, ne_eq, Int32.not_lt, Int32.not_le] at h9; simp only [Int32.reduceToInt] at h9; omega
        have hP : va_P D vwCl (mwd y ad zw (sI (tI (tI (tI (tI (sI (sI (sI (sI (sI σ 2 n_5) 5 n_6) 6 n_7) 32 (σ.1 32)) 29 (σ.1 29)) 27 (σ.2.2.1 27)) 36 (σ.2.2.1 36)) 37 (σ.2.2.1 37)) 38 (σ.2.2.1 38)) 39 (σ.1 39))) H := hP
        have hD : va_D A (mwd y ad zw (sI (tI (tI (tI (tI (sI (sI (sI (sI (sI σ 2 n_5) 5 n_6) 6 n_7) 32 (σ.1 32)) 29 (σ.1 29)) 27 (σ.2.2.1 27)) 36 (σ.2.2.1 36)) 37 (σ.2.2.1 37)) 38 (σ.2.2.1 38)) 39 (σ.1 39))) := hD
        exact x_vretW (u := (n_5, n_6, n_7, (σ.1 32), (σ.1 29), (σ.2.2.1 27), (σ.2.2.1 36), (σ.2.2.1 37), (σ.2.2.1 38), (σ.1 39))) hx hb hr hQ (by (try dsimp only); exact ⟨by omega, by omega, Or.inl ⟨by omega, rfl⟩⟩) hP hD hK hS dX12_block_47 hlocks
    · have kc_4 : r_2.toInt = 123 := by have h9 := c_4; simp only [ge_iff_le, gt_iff_lt, x_lt, x_le, x_eq, ne_eq, Int32.not_lt, Int32.not_le] at h9; simp only [Int32.reduceToInt] at h9; omega
      refine lv_aload_n hx hb dX12_block_16 rfl (lv_at hl 0 rfl) ?_
      refine va_get (D := D) (ci := 11) (v := .int (σ.1 32)) (C := RX12) (T := TX12) (N := 85) hx hb hts inX12 hown hK hP 0 mwd_o0 rfl 32 (by decide) fl260 (fun _ h9 => h9) rfl dX12_block_17 ?_
      refine lv_bipush (v := 8) hx hb dX12_block_20 (by decide) ?_
      refine lv_icmp_ne (tgt := 34) hx hb dX12_block_22 (by decide) (fun c_9 => ?_) (fun c_9 => ?_)
      · have kc_9 : (σ.1 32).toInt ≠ 8 := by have h9 := c_9; simp only [ge_iff_le, gt_iff_lt, x_lt, x_le, x_eq, ne_eq, Int32.not_lt, Int32.not_le] at h9; simp only [Int32.reduceToInt] at h9; omega
        refine lv_aload_n hx hb dX12_block_34 rfl (lv_at hl 0 rfl) ?_
        refine lv_bipush (v := 123) hx hb dX12_block_35 (by decide) ?_
        refine x_callvW (va_runV (As := [.int 123]) (rest := []) ⟨hx, hb, hml, hown, hts⟩ (q_asksSign l D y H.size ad zw (sI σ 2 n_3) 123 (by first | omega | decide) (show 0 ≤ (n_3).toInt from by first | omega | decide) (show (n_3).toInt ≤ ((σ.1 3)).toInt from by first | omega | decide) (show ((σ.1 3)).toInt ≤ 700 from by first | omega | decide)) (cwV 1 hts g_q_block_2 rfl rfl rfl (by decide +kernel) ⟨Nat.le_of_ble_eq_true rfl, Nat.le_of_ble_eq_true rfl⟩) (x_preV (q := (RX12, TX12, 85)) hK hP hD (ci := 11) (q0 := 0) rfl mwd_o0) rfl rfl hl.1 rfl (lv_room (Nat.le_of_ble_eq_true rfl)) dX12_block_37 ⟨Nat.le_of_ble_eq_true rfl, Nat.le_of_ble_eq_true rfl⟩) hP hD hS hA (fun u H locs hw hP hD hS => ?_)
        obtain ⟨n_10, n_11, n_12⟩ := u
        try dsimp only at hw
        have hP : va_P D vwCl (mwd y ad zw (sI (sI (sI (sI σ 2 n_3) 2 n_10) 5 n_11) 6 n_12)) H := hP
        have hD : va_D A (mwd y ad zw (sI (sI (sI (sI σ 2 n_3) 2 n_10) 5 n_11) 6 n_12)) := hD
        replace hw : (n_3).toInt ≤ n_10.toInt ∧ n_10.toInt ≤ ((σ.1 3)).toInt ∧ (n_11.toInt = 0 → ((σ.1 5)).toInt = 0 ∧ (n_3).toInt + 1 ≤ n_10.toInt) := hw
        rcases Classical.em (n_11.toInt = 0) with hbz | hbz
        · have hsp := (hw.2.2 hbz).2
          replace hw := And.intro hw.1 hw.2.1
          refine lv_aload_n hx hb dX12_block_40 rfl (lv_at hl 0 rfl) ?_
          refine va_get (D := D) (ci := 11) (v := .int n_11) (C := RX12) (T := TX12) (N := 85) hx hb hts inX12 hown hK hP 0 mwd_o0 rfl 5 (by decide) fl191 (fun _ h9 => h9) rfl dX12_block_41 ?_
          refine lv_if_eq (tgt := 48) hx hb dX12_block_44 (by decide) (fun c_13 => ?_) (fun c_13 => ?_)
          · have kc_13 : n_11.toInt = 0 := by have h9 := c_13; simp only [ge_iff_le, gt_iff_lt, x_lt, x_le, x_eq, ne_eq, Int32.not_lt, Int32.not_le] at h9; simp only [Int32.reduceToInt] at h9; omega
            refine lv_aload_n hx hb dX12_block_48 rfl (lv_at hl 0 rfl) ?_
            refine lv_dup hx hb dX12_block_49 rfl ?_
            refine va_get (D := D) (ci := 11) (v := .int (σ.1 32)) (C := RX12) (T := TX12) (N := 85) hx hb hts inX12 hown hK hP 0 mwd_o0 rfl 32 (by decide) fl260 (fun _ h9 => h9) rfl dX12_block_50 ?_
            refine lv_iconst (v := 1) hx hb dX12_block_53 (by decide) ?_
            refine lv_iadd hx hb dX12_block_54 ?_
            refine lv_topi (fun i_14 ei_14 => ?_)
            have vi_14 : i_14.toInt = (σ.1 32).toInt + 1 := by have h9 := x_add ei_14 (by omega) (by omega); omega
            refine va_put (D := D) (ci := 11) (v := .int i_14) (ty := .int) (C := RX12) (T := TX12) (N := 85) hx hb hts inX12 tyX12 tyX12_ok nmX12 hown hK hP hD hS 0 mwd_o0 rfl 32 (by decide) fl260 (fun _ h9 => h9) rfl (by decide +kernel) rfl rfl (Nat.le_of_ble_eq_true rfl) dX12_block_55 (fun H locs hP hD hS => ?_)
            have hP : va_P D vwCl (mwd y ad zw (sI (sI (sI (sI (sI σ 2 n_3) 2 n_10) 5 n_11) 6 n_12) 32 i_14)) H := x_trP hP mwd_p0_32
            have hD : va_D A (mwd y ad zw (sI (sI (sI (sI (sI σ 2 n_3) 2 n_10) 5 n_11) 6 n_12) 32 i_14)) := x_trD hD mwd_p0_32
            refine lv_aload_n hx hb dX12_block_58 rfl (lv_at hl 0 rfl) ?_
            refine va_get (D := D) (ci := 11) (v := .ref (ad 36)) (C := RX12) (T := TX12) (N := 85) hx hb hts inX12 hown hK hP 0 mwd_o0 rfl 36 (by decide) fl85 (fun _ h9 => h9) rfl dX12_block_59 ?_
            refine lv_aload_n hx hb dX12_block_62 rfl (lv_at hl 0 rfl) ?_
            refine va_get (D := D) (ci := 11) (v := .int (σ.1 39)) (C := RX12) (T := TX12) (N := 85) hx hb hts inX12 hown hK hP 0 mwd_o0 rfl 39 (by decide) fl332 (fun _ h9 => h9) rfl dX12_block_63 ?_
            refine lv_iload_n hx hb dX12_block_66 rfl (lv_at hl 1 rfl) ?_
            refine va_iast hx hb hK hP hD hS 24 2 mwd_a24 rfl (x_in (by omega) (by omega)) dX12_block_67 (fun H locs hP hD hS => ?_)
            obtain ⟨f_15, ef_15⟩ : ∃ z9 : Nat → Int32, z9 = (upd (σ.2.2.1 36) (Int32.toNatClampNeg (σ.1 39)) wh) := ⟨_, rfl⟩
            have hP : va_P D vwCl (mwd y ad zw (tI (sI (sI (sI (sI (sI σ 2 n_3) 2 n_10) 5 n_11) 6 n_12) 32 i_14) 36 f_15)) H := by rw [ef_15]; exact x_trP hP mwd_s24
            have hD : va_D A (mwd y ad zw (tI (sI (sI (sI (sI (sI σ 2 n_3) 2 n_10) 5 n_11) 6 n_12) 32 i_14) 36 f_15)) := by rw [ef_15]; exact x_trD hD mwd_s24
            rw [x_cl (n := (σ.1 39).toInt.toNat) (by omega)] at ef_15
            refine lv_aload_n hx hb dX12_block_68 rfl (lv_at hl 0 rfl) ?_
            refine va_get (D := D) (ci := 11) (v := .ref (ad 37)) (C := RX12) (T := TX12) (N := 85) hx hb hts inX12 hown hK hP 0 mwd_o0 rfl 37 (by decide) fl88 (fun _ h9 => h9) rfl dX12_block_69 ?_
            refine lv_aload_n hx hb dX12_block_72 rfl (lv_at hl 0 rfl) ?_
            refine va_get (D := D) (ci := 11) (v := .int (σ.1 39)) (C := RX12) (T := TX12) (N := 85) hx hb hts inX12 hown hK hP 0 mwd_o0 rfl 39 (by decide) fl332 (fun _ h9 => h9) rfl dX12_block_73 ?_
            refine lv_iload_n hx hb dX12_block_76 rfl (lv_at hl 2 rfl) ?_
            refine va_iast hx hb hK hP hD hS 25 2 mwd_a25 rfl (x_in (by omega) (by omega)) dX12_block_77 (fun H locs hP hD hS => ?_)
            obtain ⟨f_16, ef_16⟩ : ∃ z9 : Nat → Int32, z9 = (upd (σ.2.2.1 37) (Int32.toNatClampNeg (σ.1 39)) fr) := ⟨_, rfl⟩
            have hP : va_P D vwCl (mwd y ad zw (tI (tI (sI (sI (sI (sI (sI σ 2 n_3) 2 n_10) 5 n_11) 6 n_12) 32 i_14) 36 f_15) 37 f_16)) H := by rw [ef_16]; exact x_trP hP mwd_s25
            have hD : va_D A (mwd y ad zw (tI (tI (sI (sI (sI (sI (sI σ 2 n_3) 2 n_10) 5 n_11) 6 n_12) 32 i_14) 36 f_15) 37 f_16)) := by rw [ef_16]; exact x_trD hD mwd_s25
            rw [x_cl (n := (σ.1 39).toInt.toNat) (by omega)] at ef_16
            refine lv_aload_n hx hb dX12_block_78 rfl (lv_at hl 0 rfl) ?_
            refine lv_iload_n hx hb dX12_block_79 rfl (lv_at hl 1 rfl) ?_
            refine lv_iconst (v := 1) hx hb dX12_block_80 (by decide) ?_
            refine lv_icmp_ne (tgt := 90) hx hb dX12_block_81 (by decide) (fun c_17 => ?_) (fun c_17 => ?_)
            · have kc_17 : wh.toInt ≠ 1 := by have h9 := c_17; simp only [ge_iff_le, gt_iff_lt, x_lt, x_le, x_eq, ne_eq, Int32.not_lt, Int32.not_le] at h9; simp only [Int32.reduceToInt] at h9; omega
              refine lv_sipush (v := 501) hx hb dX12_block_90 (by decide) ?_
              refine x_callvW (va_runV (As := [.int 501]) (rest := []) ⟨hx, hb, hml, hown, hts⟩ (q_code l D y H.size ad zw (tI (tI (sI (sI (sI (sI (sI σ 2 n_3) 2 n_10) 5 n_11) 6 n_12) 32 i_14) 36 f_15) 37 f_16) 501 (show 0 ≤ ((σ.1 29)).toInt from by first | omega | decide) (show ((σ.1 29)).toInt < 1200 from by first | omega | decide)) (cwV 1 hts g_q_block_3 rfl rfl rfl (by decide +kernel) ⟨Nat.le_of_ble_eq_true rfl, Nat.le_of_ble_eq_true rfl⟩) (x_preV (q := (RX12, TX12, 85)) hK hP hD (ci := 11) (q0 := 0) rfl mwd_o0) rfl rfl hl.1 rfl (lv_room (Nat.le_of_ble_eq_true rfl)) dX12_block_93 ⟨Nat.le_of_ble_eq_true rfl, Nat.le_of_ble_eq_true rfl⟩) hP hD hS hA (fun u H locs hw hP hD hS => ?_)
              obtain ⟨n_18, f_19⟩ := u
              try dsimp only at hw
              have hP : va_P D vwCl (mwd y ad zw (tI (sI (tI (tI (sI (sI (sI (sI (sI σ 2 n_3) 2 n_10) 5 n_11) 6 n_12) 32 i_14) 36 f_15) 37 f_16) 29 n_18) 27 f_19)) H := hP
              have hD : va_D A (mwd y ad zw (tI (sI (tI (tI (sI (sI (sI (sI (sI σ 2 n_3) 2 n_10) 5 n_11) 6 n_12) 32 i_14) 36 f_15) 37 f_16) 29 n_18) 27 f_19)) := hD
              replace hw : n_18.toInt = ((σ.1 29)).toInt + 1 ∧ f_19 = upd ((σ.2.2.1 27)) ((σ.1 29)).toInt.toNat (501 : Int32) := hw
              obtain ⟨hcd0, hce0⟩ := hw
              refine lv_aload_n hx hb dX12_block_96 rfl (lv_at hl 0 rfl) ?_
              refine va_get (D := D) (ci := 11) (v := .ref (ad 38)) (C := RX12) (T := TX12) (N := 85) hx hb hts inX12 hown hK hP 0 mwd_o0 rfl 38 (by decide) fl91 (fun _ h9 => h9) rfl dX12_block_97 ?_
              refine lv_aload_n hx hb dX12_block_100 rfl (lv_at hl 0 rfl) ?_
              refine va_get (D := D) (ci := 11) (v := .int (σ.1 39)) (C := RX12) (T := TX12) (N := 85) hx hb hts inX12 hown hK hP 0 mwd_o0 rfl 39 (by decide) fl332 (fun _ h9 => h9) rfl dX12_block_101 ?_
              refine lv_aload_n hx hb dX12_block_104 rfl (lv_at hl 0 rfl) ?_
              refine va_get (D := D) (ci := 11) (v := .int n_18) (C := RX12) (T := TX12) (N := 85) hx hb hts inX12 hown hK hP 0 mwd_o0 rfl 29 (by decide) fl246 (fun _ h9 => h9) rfl dX12_block_105 ?_
              refine va_iast hx hb hK hP hD hS 26 2 mwd_a26 rfl (x_in (by omega) (by omega)) dX12_block_108 (fun H locs hP hD hS => ?_)
              obtain ⟨f_20, ef_20⟩ : ∃ z9 : Nat → Int32, z9 = (upd (σ.2.2.1 38) (Int32.toNatClampNeg (σ.1 39)) n_18) := ⟨_, rfl⟩
              have hP : va_P D vwCl (mwd y ad zw (tI (tI (sI (tI (tI (sI (sI (sI (sI (sI σ 2 n_3) 2 n_10) 5 n_11) 6 n_12) 32 i_14) 36 f_15) 37 f_16) 29 n_18) 27 f_19) 38 f_20)) H := by rw [ef_20]; exact x_trP hP mwd_s26
              have hD : va_D A (mwd y ad zw (tI (tI (sI (tI (tI (sI (sI (sI (sI (sI σ 2 n_3) 2 n_10) 5 n_11) 6 n_12) 32 i_14) 36 f_15) 37 f_16) 29 n_18) 27 f_19) 38 f_20)) := by rw [ef_20]; exact x_trD hD mwd_s26
              rw [x_cl (n := (σ.1 39).toInt.toNat) (by omega)] at ef_20
              refine lv_aload_n hx hb dX12_block_109 rfl (lv_at hl 0 rfl) ?_
              refine lv_iconst (v := 0) hx hb dX12_block_110 (by decide) ?_
              refine x_callvW (va_runV (As := [.int 0]) (rest := []) ⟨hx, hb, hml, hown, hts⟩ (q_code l D y H.size ad zw (tI (tI (sI (tI (tI (sI (sI (sI (sI (sI σ 2 n_3) 2 n_10) 5 n_11) 6 n_12) 32 i_14) 36 f_15) 37 f_16) 29 n_18) 27 f_19) 38 f_20) 0 (show 0 ≤ (n_18).toInt from by first | omega | decide) (show (n_18).toInt < 1200 from by first | omega | decide)) (cwV 1 hts g_q_block_3 rfl rfl rfl (by decide +kernel) ⟨Nat.le_of_ble_eq_true rfl, Nat.le_of_ble_eq_true rfl⟩) (x_preV (q := (RX12, TX12, 85)) hK hP hD (ci := 11) (q0 := 0) rfl mwd_o0) rfl rfl hl.1 rfl (lv_room (Nat.le_of_ble_eq_true rfl)) dX12_block_111 ⟨Nat.le_of_ble_eq_true rfl, Nat.le_of_ble_eq_true rfl⟩) hP hD hS hA (fun u H locs hw hP hD hS => ?_)
              obtain ⟨n_21, f_22⟩ := u
              try dsimp only at hw
              have hP : va_P D vwCl (mwd y ad zw (tI (sI (tI (tI (sI (tI (tI (sI (sI (sI (sI (sI σ 2 n_3) 2 n_10) 5 n_11) 6 n_12) 32 i_14) 36 f_15) 37 f_16) 29 n_18) 27 f_19) 38 f_20) 29 n_21) 27 f_22)) H := hP
              have hD : va_D A (mwd y ad zw (tI (sI (tI (tI (sI (tI (tI (sI (sI (sI (sI (sI σ 2 n_3) 2 n_10) 5 n_11) 6 n_12) 32 i_14) 36 f_15) 37 f_16) 29 n_18) 27 f_19) 38 f_20) 29 n_21) 27 f_22)) := hD
              replace hw : n_21.toInt = (n_18).toInt + 1 ∧ f_22 = upd (f_19) (n_18).toInt.toNat (0 : Int32) := hw
              obtain ⟨hcd1, hce1⟩ := hw
              refine lv_aload_n hx hb dX12_block_114 rfl (lv_at hl 0 rfl) ?_
              refine lv_dup hx hb dX12_block_115 rfl ?_
              refine va_get (D := D) (ci := 11) (v := .int (σ.1 39)) (C := RX12) (T := TX12) (N := 85) hx hb hts inX12 hown hK hP 0 mwd_o0 rfl 39 (by decide) fl332 (fun _ h9 => h9) rfl dX12_block_116 ?_
              refine lv_iconst (v := 1) hx hb dX12_block_119 (by decide) ?_
              refine lv_iadd hx hb dX12_block_120 ?_
              refine lv_topi (fun i_23 ei_23 => ?_)
              have vi_23 : i_23.toInt = (σ.1 39).toInt + 1 := by have h9 := x_add ei_23 (by omega) (by omega); omega
              refine va_put (D := D) (ci := 11) (v := .int i_23) (ty := .int) (C := RX12) (T := TX12) (N := 85) hx hb hts inX12 tyX12 tyX12_ok nmX12 hown hK hP hD hS 0 mwd_o0 rfl 39 (by decide) fl332 (fun _ h9 => h9) rfl (by decide +kernel) rfl rfl (Nat.le_of_ble_eq_true rfl) dX12_block_121 (fun H locs hP hD hS => ?_)
              have hP : va_P D vwCl (mwd y ad zw (sI (tI (sI (tI (tI (sI (tI (tI (sI (sI (sI (sI (sI σ 2 n_3) 2 n_10) 5 n_11) 6 n_12) 32 i_14) 36 f_15) 37 f_16) 29 n_18) 27 f_19) 38 f_20) 29 n_21) 27 f_22) 39 i_23)) H := x_trP hP mwd_p0_39
              have hD : va_D A (mwd y ad zw (sI (tI (sI (tI (tI (sI (tI (tI (sI (sI (sI (sI (sI σ 2 n_3) 2 n_10) 5 n_11) 6 n_12) 32 i_14) 36 f_15) 37 f_16) 29 n_18) 27 f_19) 38 f_20) 29 n_21) 27 f_22) 39 i_23)) := x_trD hD mwd_p0_39
              have hP : va_P D vwCl (mwd y ad zw (sI (tI (tI (tI (tI (sI (sI (sI (sI (sI σ 2 n_10) 5 n_11) 6 n_12) 32 i_14) 29 n_21) 27 f_22) 36 f_15) 37 f_16) 38 f_20) 39 i_23)) H := hP
              have hD : va_D A (mwd y ad zw (sI (tI (tI (tI (tI (sI (sI (sI (sI (sI σ 2 n_10) 5 n_11) 6 n_12) 32 i_14) 29 n_21) 27 f_22) 36 f_15) 37 f_16) 38 f_20) 39 i_23)) := hD
              exact x_vretW (u := (n_10, n_11, n_12, i_14, n_21, f_22, f_15, f_16, f_20, i_23)) hx hb hr hQ (by (try dsimp only); exact ⟨by omega, by omega, Or.inr ⟨by omega, by omega, by omega, by omega, by omega, by omega, by rw [hce1, hce0, show n_18.toInt.toNat = (σ.1 29).toInt.toNat + 1 by omega], ef_15, ef_16, _, ef_20, by omega⟩⟩) hP hD hK hS dX12_block_124 hlocks
            · have kc_17 : wh.toInt = 1 := by have h9 := c_17; simp only [ge_iff_le, gt_iff_lt, x_lt, x_le, x_eq, ne_eq, Int32.not_lt, Int32.not_le] at h9; simp only [Int32.reduceToInt] at h9; omega
              exfalso
              omega
          · have kc_13 : n_11.toInt ≠ 0 := by have h9 := c_13; simp only [ge_iff_le, gt_iff_lt, x_lt, x_le, x_eq, ne_eq, Int32.not_lt, Int32.not_le] at h9; simp only [Int32.reduceToInt] at h9; omega
            exfalso
            omega
        · replace hw := And.intro hw.1 hw.2.1
          refine lv_aload_n hx hb dX12_block_40 rfl (lv_at hl 0 rfl) ?_
          refine va_get (D := D) (ci := 11) (v := .int n_11) (C := RX12) (T := TX12) (N := 85) hx hb hts inX12 hown hK hP 0 mwd_o0 rfl 5 (by decide) fl191 (fun _ h9 => h9) rfl dX12_block_41 ?_
          refine lv_if_eq (tgt := 48) hx hb dX12_block_44 (by decide) (fun c_24 => ?_) (fun c_24 => ?_)
          · have kc_24 : n_11.toInt = 0 := by have h9 := c_24; simp only [ge_iff_le, gt_iff_lt, x_lt, x_le, x_eq, ne_eq, Int32.not_lt, Int32.not_le] at h9; simp only [Int32.reduceToInt] at h9; omega
            exfalso
            omega
          · have kc_24 : n_11.toInt ≠ 0 := by have h9 := c_24; simp only [ge_iff_le, gt_iff_lt, x_lt, x_le, x_eq, ne_eq, Int32.not_lt, Int32.not_le] at h9; simp only [Int32.reduceToInt] at h9; omega
            have hP : va_P D vwCl (mwd y ad zw (sI (tI (tI (tI (tI (sI (sI (sI (sI (sI σ 2 n_10) 5 n_11) 6 n_12) 32 (σ.1 32)) 29 (σ.1 29)) 27 (σ.2.2.1 27)) 36 (σ.2.2.1 36)) 37 (σ.2.2.1 37)) 38 (σ.2.2.1 38)) 39 (σ.1 39))) H := hP
            have hD : va_D A (mwd y ad zw (sI (tI (tI (tI (tI (sI (sI (sI (sI (sI σ 2 n_10) 5 n_11) 6 n_12) 32 (σ.1 32)) 29 (σ.1 29)) 27 (σ.2.2.1 27)) 36 (σ.2.2.1 36)) 37 (σ.2.2.1 37)) 38 (σ.2.2.1 38)) 39 (σ.1 39))) := hD
            exact x_vretW (u := (n_10, n_11, n_12, (σ.1 32), (σ.1 29), (σ.2.2.1 27), (σ.2.2.1 36), (σ.2.2.1 37), (σ.2.2.1 38), (σ.1 39))) hx hb hr hQ (by (try dsimp only); exact ⟨by omega, by omega, Or.inl ⟨by omega, rfl⟩⟩) hP hD hK hS dX12_block_47 hlocks
      · have kc_9 : (σ.1 32).toInt = 8 := by have h9 := c_9; simp only [ge_iff_le, gt_iff_lt, x_lt, x_le, x_eq, ne_eq, Int32.not_lt, Int32.not_le] at h9; simp only [Int32.reduceToInt] at h9; omega
        refine lv_aload_n hx hb dX12_block_25 rfl (lv_at hl 0 rfl) ?_
        refine lv_iconst (v := 4) hx hb dX12_block_26 (by decide) ?_
        refine lv_aload_n hx hb dX12_block_27 rfl (lv_at hl 0 rfl) ?_
        refine va_get (D := D) (ci := 11) (v := .int n_3) (C := RX12) (T := TX12) (N := 85) hx hb hts inX12 hown hK hP 0 mwd_o0 rfl 2 (by decide) fl197 (fun _ h9 => h9) rfl dX12_block_28 ?_
        refine x_callvW (va_runV (As := [.int 4, .int n_3]) (rest := []) ⟨hx, hb, hml, hown, hts⟩ (q_fail l D y H.size ad zw (sI σ 2 n_3) 4 n_3) (cwV 2 hts g_q_block_4 rfl rfl rfl (by decide +kernel) ⟨Nat.le_of_ble_eq_true rfl, Nat.le_of_ble_eq_true rfl⟩) (x_preV (q := (RX12, TX12, 85)) hK hP hD (ci := 11) (q0 := 0) rfl mwd_o0) rfl rfl hl.1 rfl (lv_room (Nat.le_of_ble_eq_true rfl)) dX12_block_31 ⟨Nat.le_of_ble_eq_true rfl, Nat.le_of_ble_eq_true rfl⟩) hP hD hS hA (fun u H locs hw hP hD hS => ?_)
        obtain ⟨b_25, b_26⟩ := u
        try dsimp only at hw
        have hP : va_P D vwCl (mwd y ad zw (sI (sI (sI σ 2 n_3) 5 b_25) 6 b_26)) H := hP
        have hD : va_D A (mwd y ad zw (sI (sI (sI σ 2 n_3) 5 b_25) 6 b_26)) := hD
        replace hw : b_25 = if (σ.1 5) = 0 then (4 : Int32) else (σ.1 5) := hw
        have hbd : b_25.toInt ≠ 0 := by rw [hw]; split <;> first | decide | (rename_i h9; intro h8; exact h9 (Int32.toInt_inj.mp (by rw [h8]; rfl)))
        clear hw
        refine lv_aload_n hx hb dX12_block_34 rfl (lv_at hl 0 rfl) ?_
        refine lv_bipush (v := 123) hx hb dX12_block_35 (by decide) ?_
        refine x_callvW (va_runV (As := [.int 123]) (rest := []) ⟨hx, hb, hml, hown, hts⟩ (q_asksSign l D y H.size ad zw (sI (sI (sI σ 2 n_3) 5 b_25) 6 b_26) 123 (by first | omega | decide) (show 0 ≤ (n_3).toInt from by first | omega | decide) (show (n_3).toInt ≤ ((σ.1 3)).toInt from by first | omega | decide) (show ((σ.1 3)).toInt ≤ 700 from by first | omega | decide)) (cwV 1 hts g_q_block_2 rfl rfl rfl (by decide +kernel) ⟨Nat.le_of_ble_eq_true rfl, Nat.le_of_ble_eq_true rfl⟩) (x_preV (q := (RX12, TX12, 85)) hK hP hD (ci := 11) (q0 := 0) rfl mwd_o0) rfl rfl hl.1 rfl (lv_room (Nat.le_of_ble_eq_true rfl)) dX12_block_37 ⟨Nat.le_of_ble_eq_true rfl, Nat.le_of_ble_eq_true rfl⟩) hP hD hS hA (fun u H locs hw hP hD hS => ?_)
        obtain ⟨n_27, n_28, n_29⟩ := u
        try dsimp only at hw
        have hP : va_P D vwCl (mwd y ad zw (sI (sI (sI (sI (sI (sI σ 2 n_3) 5 b_25) 6 b_26) 2 n_27) 5 n_28) 6 n_29)) H := hP
        have hD : va_D A (mwd y ad zw (sI (sI (sI (sI (sI (sI σ 2 n_3) 5 b_25) 6 b_26) 2 n_27) 5 n_28) 6 n_29)) := hD
        replace hw : (n_3).toInt ≤ n_27.toInt ∧ n_27.toInt ≤ ((σ.1 3)).toInt ∧ (n_28.toInt = 0 → (b_25).toInt = 0 ∧ (n_3).toInt + 1 ≤ n_27.toInt) := hw
        have hbz : n_28.toInt ≠ 0 := fun h9 => absurd (hw.2.2 h9).1 (by omega)
        replace hw := And.intro hw.1 hw.2.1
        refine lv_aload_n hx hb dX12_block_40 rfl (lv_at hl 0 rfl) ?_
        refine va_get (D := D) (ci := 11) (v := .int n_28) (C := RX12) (T := TX12) (N := 85) hx hb hts inX12 hown hK hP 0 mwd_o0 rfl 5 (by decide) fl191 (fun _ h9 => h9) rfl dX12_block_41 ?_
        refine lv_if_eq (tgt := 48) hx hb dX12_block_44 (by decide) (fun c_30 => ?_) (fun c_30 => ?_)
        · have kc_30 : n_28.toInt = 0 := by have h9 := c_30; simp only [ge_iff_le, gt_iff_lt, x_lt, x_le, x_eq, ne_eq, Int32.not_lt, Int32.not_le] at h9; simp only [Int32.reduceToInt] at h9; omega
          exfalso
          omega
        · have kc_30 : n_28.toInt ≠ 0 := by have h9 := c_30; simp only [ge_iff_le, gt_iff_lt, x_lt, x_le, x_eq, ne_eq, Int32.not_lt, Int32.not_le] at h9; simp only [Int32.reduceToInt] at h9; omega
          have hP : va_P D vwCl (mwd y ad zw (sI (tI (tI (tI (tI (sI (sI (sI (sI (sI σ 2 n_27) 5 n_28) 6 n_29) 32 (σ.1 32)) 29 (σ.1 29)) 27 (σ.2.2.1 27)) 36 (σ.2.2.1 36)) 37 (σ.2.2.1 37)) 38 (σ.2.2.1 38)) 39 (σ.1 39))) H := hP
          have hD : va_D A (mwd y ad zw (sI (tI (tI (tI (tI (sI (sI (sI (sI (sI σ 2 n_27) 5 n_28) 6 n_29) 32 (σ.1 32)) 29 (σ.1 29)) 27 (σ.2.2.1 27)) 36 (σ.2.2.1 36)) 37 (σ.2.2.1 37)) 38 (σ.2.2.1 38)) 39 (σ.1 39))) := hD
          exact x_vretW (u := (n_27, n_28, n_29, (σ.1 32), (σ.1 29), (σ.2.2.1 27), (σ.2.2.1 36), (σ.2.2.1 37), (σ.2.2.1 38), (σ.1 39))) hx hb hr hQ (by (try dsimp only); exact ⟨by omega, by omega, Or.inl ⟨by omega, rfl⟩⟩) hP hD hK hS dX12_block_47 hlocks

def v_q_blockE : List Cond := .code yX12_block cX12_block 3 none :: ([.fieldLink RX12 191 "SlopeRunnerModel" "bad" "I", .fieldLink RX12 260 "SlopeRunnerModel" "open" "I", .fieldLink RX12 85 "SlopeRunnerModel" "blockSort" "[I", .fieldLink RX12 332 "SlopeRunnerModel" "blocks" "I", .fieldLink RX12 88 "SlopeRunnerModel" "blockFrom" "[I", .fieldLink RX12 91 "SlopeRunnerModel" "blockJump" "[I", .fieldLink RX12 246 "SlopeRunnerModel" "coded" "I", .fieldLink RX12 197 "SlopeRunnerModel" "at" "I"] ++ ((wsV RX12 203 RX12 yX12_look v_q_look3) ++ ((wsV RX12 286 RX12 yX12_asksSign v_q_asksSignN) ++ ((wsV RX12 286 RX12 yX12_asksSign v_q_asksSign) ++ ((wsV RX12 266 RX12 yX12_code v_q_code) ++ ((wsV RX12 221 RX12 yX12_fail v_q_fail) ++ wsX120))))))
theorem g_q_blockE_0 : GoodIn v_q_blockE (wsV RX12 203 RX12 yX12_look v_q_look3) := goodIn_sub (fun w h => List.mem_cons_of_mem _ (List.mem_append_right _ (List.mem_append_left _ h))) (by decide +kernel)
theorem g_q_blockE_1 : GoodIn v_q_blockE (wsV RX12 286 RX12 yX12_asksSign v_q_asksSignN) := goodIn_sub (fun w h => List.mem_cons_of_mem _ (List.mem_append_right _ (List.mem_append_right _ (List.mem_append_left _ h)))) (by decide +kernel)
theorem g_q_blockE_2 : GoodIn v_q_blockE (wsV RX12 286 RX12 yX12_asksSign v_q_asksSign) := goodIn_sub (fun w h => List.mem_cons_of_mem _ (List.mem_append_right _ (List.mem_append_right _ (List.mem_append_right _ (List.mem_append_left _ h))))) (by decide +kernel)
theorem g_q_blockE_3 : GoodIn v_q_blockE (wsV RX12 266 RX12 yX12_code v_q_code) := goodIn_sub (fun w h => List.mem_cons_of_mem _ (List.mem_append_right _ (List.mem_append_right _ (List.mem_append_right _ (List.mem_append_right _ (List.mem_append_left _ h)))))) (by decide +kernel)
theorem g_q_blockE_4 : GoodIn v_q_blockE (wsV RX12 221 RX12 yX12_fail v_q_fail) := goodIn_sub (fun w h => List.mem_cons_of_mem _ (List.mem_append_right _ (List.mem_append_right _ (List.mem_append_right _ (List.mem_append_right _ (List.mem_append_right _ (List.mem_append_left _ h))))))) (by decide +kernel)
set_option maxHeartbeats 4000000 in
set_option maxRecDepth 100000 in
theorem q_blockE (l : Launch) (D : va_G) (y : Nat → ClassId) (sz : Nat) (ad : Nat → Nat) (zw : Nat → Nat → Int32) (σ : OS) (ha0 : 0 ≤ (σ.1 2).toInt) (ha1 : (σ.1 2).toInt ≤ (σ.1 3).toInt) (ha2 : (σ.1 3).toInt ≤ 700) (hb0 : (σ.1 5).toInt = 0) (hbo : (σ.1 39).toInt = (σ.1 32).toInt) (hbl0 : 0 ≤ (σ.1 39).toInt) (ho1 : (σ.1 32).toInt ≤ 8) (hc0 : 0 ≤ (σ.1 29).toInt) (hc1 : (σ.1 29).toInt < 1190) : Met l yX12_block v_q_blockE ({ frames := 3, cells := 0, slots := 0, locals := 62 } : Room) (va_Pc [.ref (ad 1), .int 1, .int 0] (xPre D (xT y) (mwd y ad zw σ) sz)) (va_Qv (fun (u : Int32 × Int32 × Int32 × Int32 × Int32 × (Nat → Int32) × (Nat → Int32) × (Nat → Int32) × (Nat → Int32) × Int32) => (σ.1 2).toInt ≤ u.1.toInt ∧ u.1.toInt ≤ (σ.1 3).toInt ∧ ((u.2.1.toInt ≠ 0 ∧ u.2.2.2.2.1 = (σ.1 29)) ∨ (u.2.1.toInt = 0 ∧ (σ.1 2).toInt + 1 ≤ u.1.toInt ∧ u.2.2.2.1.toInt = (σ.1 32).toInt + 1 ∧ u.2.2.2.1.toInt ≤ 8 ∧ u.2.2.2.2.2.2.2.2.2.toInt = (σ.1 39).toInt + 1 ∧ u.2.2.2.2.1.toInt = (σ.1 29).toInt + 2 ∧ u.2.2.2.2.2.1 = upd (upd (σ.2.2.1 27) (σ.1 29).toInt.toNat 502) ((σ.1 29).toInt.toNat + 1) 0 ∧ u.2.2.2.2.2.2.1 = upd (σ.2.2.1 36) (σ.1 39).toInt.toNat (1 : Int32) ∧ u.2.2.2.2.2.2.2.1 = upd (σ.2.2.1 37) (σ.1 39).toInt.toNat (0 : Int32) ∧ ∃ z9 : Int32, u.2.2.2.2.2.2.2.2.1 = upd (σ.2.2.1 38) (σ.1 39).toInt.toNat z9 ∧ z9.toInt = (σ.1 29).toInt + 1))) (fun (u : Int32 × Int32 × Int32 × Int32 × Int32 × (Nat → Int32) × (Nat → Int32) × (Nat → Int32) × (Nat → Int32) × Int32) => xB D (xT y) (va_A (mwd y ad zw σ) sz) (mwd y ad zw (sI (tI (tI (tI (tI (sI (sI (sI (sI (sI σ 2 u.1) 5 u.2.1) 6 u.2.2.1) 32 u.2.2.2.1) 29 u.2.2.2.2.1) 27 u.2.2.2.2.2.1) 36 u.2.2.2.2.2.2.1) 37 u.2.2.2.2.2.2.2.1) 38 u.2.2.2.2.2.2.2.2.1) 39 u.2.2.2.2.2.2.2.2.2))) (va_A (mwd y ad zw σ) sz)) 0 0 (va_A (mwd y ad zw σ) sz) := by
  refine x_metv (cc := cX12_block) (maxL := 3) (by decide) rfl (Nat.le_of_ble_eq_true rfl) ?_
  intro p e s m below meth c A H locs Q hx hb hml hown hts hr hlocks hmn hA hP hK hD hS ls hl hQ
  have hl : lv_has ls 3 [(0, .ref (ad 1)), (1, .int 1), (2, .int 0)] := hl
  have fl191 := hts (.fieldLink RX12 191 "SlopeRunnerModel" "bad" "I") (List.mem_of_getElem? (i := 1) rfl)
  have inX12 : ∀ w ∈ wsX120, w ∈ v_q_blockE := (fun w h => List.mem_cons_of_mem _ (List.mem_append_right _ (List.mem_append_right _ (List.mem_append_right _ (List.mem_append_right _ (List.mem_append_right _ (List.mem_append_right _ h)))))))
  have kk_0 : (0 : Int32).toInt = 0 := rfl
  have kk_123 : (123 : Int32).toInt = 123 := rfl
  have fl260 := hts (.fieldLink RX12 260 "SlopeRunnerModel" "open" "I") (List.mem_of_getElem? (i := 2) rfl)
  have kk_8 : (8 : Int32).toInt = 8 := rfl
  have kk_1 : (1 : Int32).toInt = 1 := rfl
  have fl85 := hts (.fieldLink RX12 85 "SlopeRunnerModel" "blockSort" "[I") (List.mem_of_getElem? (i := 3) rfl)
  have fl332 := hts (.fieldLink RX12 332 "SlopeRunnerModel" "blocks" "I") (List.mem_of_getElem? (i := 4) rfl)
  have fl88 := hts (.fieldLink RX12 88 "SlopeRunnerModel" "blockFrom" "[I") (List.mem_of_getElem? (i := 5) rfl)
  have kk_502 : (502 : Int32).toInt = 502 := rfl
  have fl91 := hts (.fieldLink RX12 91 "SlopeRunnerModel" "blockJump" "[I") (List.mem_of_getElem? (i := 6) rfl)
  have fl246 := hts (.fieldLink RX12 246 "SlopeRunnerModel" "coded" "I") (List.mem_of_getElem? (i := 7) rfl)
  have fl197 := hts (.fieldLink RX12 197 "SlopeRunnerModel" "at" "I") (List.mem_of_getElem? (i := 8) rfl)
  have kk_4 : (4 : Int32).toInt = 4 := rfl
  refine lv_aload_n hx hb dX12_block_0 rfl (lv_at hl 0 rfl) ?_
  refine va_get (D := D) (ci := 11) (v := .int (σ.1 5)) (C := RX12) (T := TX12) (N := 85) hx hb hts inX12 hown hK hP 0 mwd_o0 rfl 5 (by decide) fl191 (fun _ h9 => h9) rfl dX12_block_1 ?_
  refine lv_if_ne (tgt := 34) hx hb dX12_block_4 (by decide) (fun c_1 => ?_) (fun c_1 => ?_)
  · have kc_1 : (σ.1 5).toInt ≠ 0 := by have h9 := c_1; simp only [ge_iff_le, gt_iff_lt, x_lt, x_le, x_eq, ne_eq, Int32.not_lt, Int32.not_le] at h9; simp only [Int32.reduceToInt] at h9; omega
    exfalso
    omega
  · have kc_1 : (σ.1 5).toInt = 0 := by have h9 := c_1; simp only [ge_iff_le, gt_iff_lt, x_lt, x_le, x_eq, ne_eq, Int32.not_lt, Int32.not_le] at h9; simp only [Int32.reduceToInt] at h9; omega
    refine lv_aload_n hx hb dX12_block_7 rfl (lv_at hl 0 rfl) ?_
    refine x_calliW (va_runV (As := []) (rest := []) ⟨hx, hb, hml, hown, hts⟩ (q_look3 l D y H.size ad zw σ (show 0 ≤ ((σ.1 2)).toInt from by first | omega | decide) (show ((σ.1 2)).toInt ≤ ((σ.1 3)).toInt from by first | omega | decide) (show ((σ.1 3)).toInt ≤ 700 from by first | omega | decide)) (cwV 0 hts g_q_blockE_0 rfl rfl rfl (by decide +kernel) ⟨Nat.le_of_ble_eq_true rfl, Nat.le_of_ble_eq_true rfl⟩) (x_preV (q := (RX12, TX12, 85)) hK hP hD (ci := 11) (q0 := 0) rfl mwd_o0) rfl rfl hl.1 rfl (lv_room (Nat.le_of_ble_eq_true rfl)) dX12_block_8 ⟨Nat.le_of_ble_eq_true rfl, Nat.le_of_ble_eq_true rfl⟩) hP hD hS hA (fun r_2 u H locs hw hP hD hS => ?_)
    obtain ⟨n_3, rfl⟩ : ∃ z9, z9 = u := ⟨_, rfl⟩
    try dsimp only at hw
    have hP : va_P D vwCl (mwd y ad zw (sI σ 2 n_3)) H := hP
    have hD : va_D A (mwd y ad zw (sI σ 2 n_3)) := hD
    replace hw : ((σ.1 2)).toInt ≤ n_3.toInt ∧ n_3.toInt ≤ ((σ.1 3)).toInt ∧ SD ((σ.2.2.1 0)) n_3.toInt ((σ.1 3)).toInt ∧ r_2.toInt = LV ((σ.2.2.1 0)) n_3.toInt ((σ.1 3)).toInt := hw
    obtain ⟨hk1, hk2, hk3, hk4⟩ := hw
    refine lv_bipush (v := 123) hx hb dX12_block_11 (by decide) ?_
    refine lv_icmp_ne (tgt := 34) hx hb dX12_block_13 (by decide) (fun c_4 => ?_) (fun c_4 => ?_)
    · have kc_4 : r_2.toInt ≠ 123 := by have h9 := c_4; simp only [ge_iff_le, gt_iff_lt, x_lt, x_le, x_eq, ne_eq, Int32.not_lt, Int32.not_le] at h9; simp only [Int32.reduceToInt] at h9; omega
      refine lv_aload_n hx hb dX12_block_34 rfl (lv_at hl 0 rfl) ?_
      refine lv_bipush (v := 123) hx hb dX12_block_35 (by decide) ?_
      refine x_callvW (va_runV (As := [.int 123]) (rest := []) ⟨hx, hb, hml, hown, hts⟩ (q_asksSignN l D y H.size ad zw (sI σ 2 n_3) 123 (show ((σ.1 5)).toInt = 0 from by first | omega | decide) hk3 (show LV (σ.2.2.1 0) n_3.toInt (σ.1 3).toInt ≠ (123 : Int32).toInt from by have l123 : (123 : Int32).toInt = 123 := rfl; omega) (show 0 ≤ (n_3).toInt from by first | omega | decide) (show (n_3).toInt ≤ ((σ.1 3)).toInt from by first | omega | decide) (show ((σ.1 3)).toInt ≤ 700 from by first | omega | decide)) (cwV 1 hts g_q_blockE_1 rfl rfl rfl (by decide +kernel) ⟨Nat.le_of_ble_eq_true rfl, Nat.le_of_ble_eq_true rfl⟩) (x_preV (q := (RX12, TX12, 85)) hK hP hD (ci := 11) (q0 := 0) rfl mwd_o0) rfl rfl hl.1 rfl (lv_room (Nat.le_of_ble_eq_true rfl)) dX12_block_37 ⟨Nat.le_of_ble_eq_true rfl, Nat.le_of_ble_eq_true rfl⟩) hP hD hS hA (fun u H locs hw hP hD hS => ?_)
      obtain ⟨n_5, n_6, n_7⟩ := u
      try dsimp only at hw
      have hP : va_P D vwCl (mwd y ad zw (sI (sI (sI (sI σ 2 n_3) 2 n_5) 5 n_6) 6 n_7)) H := hP
      have hD : va_D A (mwd y ad zw (sI (sI (sI (sI σ 2 n_3) 2 n_5) 5 n_6) 6 n_7)) := hD
      replace hw : n_5 = (n_3) ∧ n_6.toInt ≠ 0 := hw
      obtain ⟨hz1, hz2⟩ := hw
      have hz3 : n_5.toInt = n_3.toInt := by rw [hz1]
      refine lv_aload_n hx hb dX12_block_40 rfl (lv_at hl 0 rfl) ?_
      refine va_get (D := D) (ci := 11) (v := .int n_6) (C := RX12) (T := TX12) (N := 85) hx hb hts inX12 hown hK hP 0 mwd_o0 rfl 5 (by decide) fl191 (fun _ h9 => h9) rfl dX12_block_41 ?_
      refine lv_if_eq (tgt := 48) hx hb dX12_block_44 (by decide) (fun c_8 => ?_) (fun c_8 => ?_)
      · have kc_8 : n_6.toInt = 0 := by have h9 := c_8; simp only [ge_iff_le, gt_iff_lt, x_lt, x_le, x_eq, ne_eq, Int32.not_lt, Int32.not_le] at h9; simp only [Int32.reduceToInt] at h9; omega
        exfalso
        omega
      · have kc_8 : n_6.toInt ≠ 0 := by have h9 := c_8; simp only [ge_iff_le, gt_iff_lt, x_lt, x_le, x_eq, ne_eq, Int32.not_lt, Int32.not_le] at h9; simp only [Int32.reduceToInt] at h9; omega
        have hP : va_P D vwCl (mwd y ad zw (sI (tI (tI (tI (tI (sI (sI (sI (sI (sI σ 2 n_5) 5 n_6) 6 n_7) 32 (σ.1 32)) 29 (σ.1 29)) 27 (σ.2.2.1 27)) 36 (σ.2.2.1 36)) 37 (σ.2.2.1 37)) 38 (σ.2.2.1 38)) 39 (σ.1 39))) H := hP
        have hD : va_D A (mwd y ad zw (sI (tI (tI (tI (tI (sI (sI (sI (sI (sI σ 2 n_5) 5 n_6) 6 n_7) 32 (σ.1 32)) 29 (σ.1 29)) 27 (σ.2.2.1 27)) 36 (σ.2.2.1 36)) 37 (σ.2.2.1 37)) 38 (σ.2.2.1 38)) 39 (σ.1 39))) := hD
        exact x_vretW (u := (n_5, n_6, n_7, (σ.1 32), (σ.1 29), (σ.2.2.1 27), (σ.2.2.1 36), (σ.2.2.1 37), (σ.2.2.1 38), (σ.1 39))) hx hb hr hQ (by (try dsimp only); exact ⟨by omega, by omega, Or.inl ⟨by omega, rfl⟩⟩) hP hD hK hS dX12_block_47 hlocks
    · have kc_4 : r_2.toInt = 123 := by have h9 := c_4; simp only [ge_iff_le, gt_iff_lt, x_lt, x_le, x_eq, ne_eq, Int32.not_lt, Int32.not_le] at h9; simp only [Int32.reduceToInt] at h9; omega
      refine lv_aload_n hx hb dX12_block_16 rfl (lv_at hl 0 rfl) ?_
      refine va_get (D := D) (ci := 11) (v := .int (σ.1 32)) (C := RX12) (T := TX12) (N := 85) hx hb hts inX12 hown hK hP 0 mwd_o0 rfl 32 (by decide) fl260 (fun _ h9 => h9) rfl dX12_block_17 ?_
      refine lv_bipush (v := 8) hx hb dX12_block_20 (by decide) ?_
      refine lv_icmp_ne (tgt := 34) hx hb dX12_block_22 (by decide) (fun c_9 => ?_) (fun c_9 => ?_)
      · have kc_9 : (σ.1 32).toInt ≠ 8 := by have h9 := c_9; simp only [ge_iff_le, gt_iff_lt, x_lt, x_le, x_eq, ne_eq, Int32.not_lt, Int32.not_le] at h9; simp only [Int32.reduceToInt] at h9; omega
        refine lv_aload_n hx hb dX12_block_34 rfl (lv_at hl 0 rfl) ?_
        refine lv_bipush (v := 123) hx hb dX12_block_35 (by decide) ?_
        refine x_callvW (va_runV (As := [.int 123]) (rest := []) ⟨hx, hb, hml, hown, hts⟩ (q_asksSign l D y H.size ad zw (sI σ 2 n_3) 123 (by first | omega | decide) (show 0 ≤ (n_3).toInt from by first | omega | decide) (show (n_3).toInt ≤ ((σ.1 3)).toInt from by first | omega | decide) (show ((σ.1 3)).toInt ≤ 700 from by first | omega | decide)) (cwV 1 hts g_q_blockE_2 rfl rfl rfl (by decide +kernel) ⟨Nat.le_of_ble_eq_true rfl, Nat.le_of_ble_eq_true rfl⟩) (x_preV (q := (RX12, TX12, 85)) hK hP hD (ci := 11) (q0 := 0) rfl mwd_o0) rfl rfl hl.1 rfl (lv_room (Nat.le_of_ble_eq_true rfl)) dX12_block_37 ⟨Nat.le_of_ble_eq_true rfl, Nat.le_of_ble_eq_true rfl⟩) hP hD hS hA (fun u H locs hw hP hD hS => ?_)
        obtain ⟨n_10, n_11, n_12⟩ := u
        try dsimp only at hw
        have hP : va_P D vwCl (mwd y ad zw (sI (sI (sI (sI σ 2 n_3) 2 n_10) 5 n_11) 6 n_12)) H := hP
        have hD : va_D A (mwd y ad zw (sI (sI (sI (sI σ 2 n_3) 2 n_10) 5 n_11) 6 n_12)) := hD
        replace hw : (n_3).toInt ≤ n_10.toInt ∧ n_10.toInt ≤ ((σ.1 3)).toInt ∧ (n_11.toInt = 0 → ((σ.1 5)).toInt = 0 ∧ (n_3).toInt + 1 ≤ n_10.toInt) := hw
        rcases Classical.em (n_11.toInt = 0) with hbz | hbz
        · have hsp := (hw.2.2 hbz).2
          replace hw := And.intro hw.1 hw.2.1
          refine lv_aload_n hx hb dX12_block_40 rfl (lv_at hl 0 rfl) ?_
          refine va_get (D := D) (ci := 11) (v := .int n_11) (C := RX12) (T := TX12) (N := 85) hx hb hts inX12 hown hK hP 0 mwd_o0 rfl 5 (by decide) fl191 (fun _ h9 => h9) rfl dX12_block_41 ?_
          refine lv_if_eq (tgt := 48) hx hb dX12_block_44 (by decide) (fun c_13 => ?_) (fun c_13 => ?_)
          · have kc_13 : n_11.toInt = 0 := by have h9 := c_13; simp only [ge_iff_le, gt_iff_lt, x_lt, x_le, x_eq, ne_eq, Int32.not_lt, Int32.not_le] at h9; simp only [Int32.reduceToInt] at h9; omega
            refine lv_aload_n hx hb dX12_block_48 rfl (lv_at hl 0 rfl) ?_
            refine lv_dup hx hb dX12_block_49 rfl ?_
            refine va_get (D := D) (ci := 11) (v := .int (σ.1 32)) (C := RX12) (T := TX12) (N := 85) hx hb hts inX12 hown hK hP 0 mwd_o0 rfl 32 (by decide) fl260 (fun _ h9 => h9) rfl dX12_block_50 ?_
            refine lv_iconst (v := 1) hx hb dX12_block_53 (by decide) ?_
            refine lv_iadd hx hb dX12_block_54 ?_
            refine lv_topi (fun i_14 ei_14 => ?_)
            have vi_14 : i_14.toInt = (σ.1 32).toInt + 1 := by have h9 := x_add ei_14 (by omega) (by omega); omega
            refine va_put (D := D) (ci := 11) (v := .int i_14) (ty := .int) (C := RX12) (T := TX12) (N := 85) hx hb hts inX12 tyX12 tyX12_ok nmX12 hown hK hP hD hS 0 mwd_o0 rfl 32 (by decide) fl260 (fun _ h9 => h9) rfl (by decide +kernel) rfl rfl (Nat.le_of_ble_eq_true rfl) dX12_block_55 (fun H locs hP hD hS => ?_)
            have hP : va_P D vwCl (mwd y ad zw (sI (sI (sI (sI (sI σ 2 n_3) 2 n_10) 5 n_11) 6 n_12) 32 i_14)) H := x_trP hP mwd_p0_32
            have hD : va_D A (mwd y ad zw (sI (sI (sI (sI (sI σ 2 n_3) 2 n_10) 5 n_11) 6 n_12) 32 i_14)) := x_trD hD mwd_p0_32
            refine lv_aload_n hx hb dX12_block_58 rfl (lv_at hl 0 rfl) ?_
            refine va_get (D := D) (ci := 11) (v := .ref (ad 36)) (C := RX12) (T := TX12) (N := 85) hx hb hts inX12 hown hK hP 0 mwd_o0 rfl 36 (by decide) fl85 (fun _ h9 => h9) rfl dX12_block_59 ?_
            refine lv_aload_n hx hb dX12_block_62 rfl (lv_at hl 0 rfl) ?_
            refine va_get (D := D) (ci := 11) (v := .int (σ.1 39)) (C := RX12) (T := TX12) (N := 85) hx hb hts inX12 hown hK hP 0 mwd_o0 rfl 39 (by decide) fl332 (fun _ h9 => h9) rfl dX12_block_63 ?_
            refine lv_iload_n hx hb dX12_block_66 rfl (lv_at hl 1 rfl) ?_
            refine va_iast hx hb hK hP hD hS 24 2 mwd_a24 rfl (x_in (by omega) (by omega)) dX12_block_67 (fun H locs hP hD hS => ?_)
            obtain ⟨f_15, ef_15⟩ : ∃ z9 : Nat → Int32, z9 = (upd (σ.2.2.1 36) (Int32.toNatClampNeg (σ.1 39)) 1) := ⟨_, rfl⟩
            have hP : va_P D vwCl (mwd y ad zw (tI (sI (sI (sI (sI (sI σ 2 n_3) 2 n_10) 5 n_11) 6 n_12) 32 i_14) 36 f_15)) H := by rw [ef_15]; exact x_trP hP mwd_s24
            have hD : va_D A (mwd y ad zw (tI (sI (sI (sI (sI (sI σ 2 n_3) 2 n_10) 5 n_11) 6 n_12) 32 i_14) 36 f_15)) := by rw [ef_15]; exact x_trD hD mwd_s24
            rw [x_cl (n := (σ.1 39).toInt.toNat) (by omega)] at ef_15
            refine lv_aload_n hx hb dX12_block_68 rfl (lv_at hl 0 rfl) ?_
            refine va_get (D := D) (ci := 11) (v := .ref (ad 37)) (C := RX12) (T := TX12) (N := 85) hx hb hts inX12 hown hK hP 0 mwd_o0 rfl 37 (by decide) fl88 (fun _ h9 => h9) rfl dX12_block_69 ?_
            refine lv_aload_n hx hb dX12_block_72 rfl (lv_at hl 0 rfl) ?_
            refine va_get (D := D) (ci := 11) (v := .int (σ.1 39)) (C := RX12) (T := TX12) (N := 85) hx hb hts inX12 hown hK hP 0 mwd_o0 rfl 39 (by decide) fl332 (fun _ h9 => h9) rfl dX12_block_73 ?_
            refine lv_iload_n hx hb dX12_block_76 rfl (lv_at hl 2 rfl) ?_
            refine va_iast hx hb hK hP hD hS 25 2 mwd_a25 rfl (x_in (by omega) (by omega)) dX12_block_77 (fun H locs hP hD hS => ?_)
            obtain ⟨f_16, ef_16⟩ : ∃ z9 : Nat → Int32, z9 = (upd (σ.2.2.1 37) (Int32.toNatClampNeg (σ.1 39)) 0) := ⟨_, rfl⟩
            have hP : va_P D vwCl (mwd y ad zw (tI (tI (sI (sI (sI (sI (sI σ 2 n_3) 2 n_10) 5 n_11) 6 n_12) 32 i_14) 36 f_15) 37 f_16)) H := by rw [ef_16]; exact x_trP hP mwd_s25
            have hD : va_D A (mwd y ad zw (tI (tI (sI (sI (sI (sI (sI σ 2 n_3) 2 n_10) 5 n_11) 6 n_12) 32 i_14) 36 f_15) 37 f_16)) := by rw [ef_16]; exact x_trD hD mwd_s25
            rw [x_cl (n := (σ.1 39).toInt.toNat) (by omega)] at ef_16
            refine lv_aload_n hx hb dX12_block_78 rfl (lv_at hl 0 rfl) ?_
            refine lv_iload_n hx hb dX12_block_79 rfl (lv_at hl 1 rfl) ?_
            refine lv_iconst (v := 1) hx hb dX12_block_80 (by decide) ?_
            refine lv_icmp_ne (tgt := 90) hx hb dX12_block_81 (by decide) (fun c_17 => ?_) (fun c_17 => ?_)
            · exact absurd (by decide) c_17
            · refine lv_sipush (v := 502) hx hb dX12_block_84 (by decide) ?_
              refine lv_goto (tgt := 93) hx hb dX12_block_87 (by decide) ?_
              refine x_callvW (va_runV (As := [.int 502]) (rest := []) ⟨hx, hb, hml, hown, hts⟩ (q_code l D y H.size ad zw (tI (tI (sI (sI (sI (sI (sI σ 2 n_3) 2 n_10) 5 n_11) 6 n_12) 32 i_14) 36 f_15) 37 f_16) 502 (show 0 ≤ ((σ.1 29)).toInt from by first | omega | decide) (show ((σ.1 29)).toInt < 1200 from by first | omega | decide)) (cwV 1 hts g_q_blockE_3 rfl rfl rfl (by decide +kernel) ⟨Nat.le_of_ble_eq_true rfl, Nat.le_of_ble_eq_true rfl⟩) (x_preV (q := (RX12, TX12, 85)) hK hP hD (ci := 11) (q0 := 0) rfl mwd_o0) rfl rfl hl.1 rfl (lv_room (Nat.le_of_ble_eq_true rfl)) dX12_block_93 ⟨Nat.le_of_ble_eq_true rfl, Nat.le_of_ble_eq_true rfl⟩) hP hD hS hA (fun u H locs hw hP hD hS => ?_)
              obtain ⟨n_18, f_19⟩ := u
              try dsimp only at hw
              have hP : va_P D vwCl (mwd y ad zw (tI (sI (tI (tI (sI (sI (sI (sI (sI σ 2 n_3) 2 n_10) 5 n_11) 6 n_12) 32 i_14) 36 f_15) 37 f_16) 29 n_18) 27 f_19)) H := hP
              have hD : va_D A (mwd y ad zw (tI (sI (tI (tI (sI (sI (sI (sI (sI σ 2 n_3) 2 n_10) 5 n_11) 6 n_12) 32 i_14) 36 f_15) 37 f_16) 29 n_18) 27 f_19)) := hD
              replace hw : n_18.toInt = ((σ.1 29)).toInt + 1 ∧ f_19 = upd ((σ.2.2.1 27)) ((σ.1 29)).toInt.toNat (502 : Int32) := hw
              obtain ⟨hcd0, hce0⟩ := hw
              refine lv_aload_n hx hb dX12_block_96 rfl (lv_at hl 0 rfl) ?_
              refine va_get (D := D) (ci := 11) (v := .ref (ad 38)) (C := RX12) (T := TX12) (N := 85) hx hb hts inX12 hown hK hP 0 mwd_o0 rfl 38 (by decide) fl91 (fun _ h9 => h9) rfl dX12_block_97 ?_
              refine lv_aload_n hx hb dX12_block_100 rfl (lv_at hl 0 rfl) ?_
              refine va_get (D := D) (ci := 11) (v := .int (σ.1 39)) (C := RX12) (T := TX12) (N := 85) hx hb hts inX12 hown hK hP 0 mwd_o0 rfl 39 (by decide) fl332 (fun _ h9 => h9) rfl dX12_block_101 ?_
              refine lv_aload_n hx hb dX12_block_104 rfl (lv_at hl 0 rfl) ?_
              refine va_get (D := D) (ci := 11) (v := .int n_18) (C := RX12) (T := TX12) (N := 85) hx hb hts inX12 hown hK hP 0 mwd_o0 rfl 29 (by decide) fl246 (fun _ h9 => h9) rfl dX12_block_105 ?_
              refine va_iast hx hb hK hP hD hS 26 2 mwd_a26 rfl (x_in (by omega) (by omega)) dX12_block_108 (fun H locs hP hD hS => ?_)
              obtain ⟨f_20, ef_20⟩ : ∃ z9 : Nat → Int32, z9 = (upd (σ.2.2.1 38) (Int32.toNatClampNeg (σ.1 39)) n_18) := ⟨_, rfl⟩
              have hP : va_P D vwCl (mwd y ad zw (tI (tI (sI (tI (tI (sI (sI (sI (sI (sI σ 2 n_3) 2 n_10) 5 n_11) 6 n_12) 32 i_14) 36 f_15) 37 f_16) 29 n_18) 27 f_19) 38 f_20)) H := by rw [ef_20]; exact x_trP hP mwd_s26
              have hD : va_D A (mwd y ad zw (tI (tI (sI (tI (tI (sI (sI (sI (sI (sI σ 2 n_3) 2 n_10) 5 n_11) 6 n_12) 32 i_14) 36 f_15) 37 f_16) 29 n_18) 27 f_19) 38 f_20)) := by rw [ef_20]; exact x_trD hD mwd_s26
              rw [x_cl (n := (σ.1 39).toInt.toNat) (by omega)] at ef_20
              refine lv_aload_n hx hb dX12_block_109 rfl (lv_at hl 0 rfl) ?_
              refine lv_iconst (v := 0) hx hb dX12_block_110 (by decide) ?_
              refine x_callvW (va_runV (As := [.int 0]) (rest := []) ⟨hx, hb, hml, hown, hts⟩ (q_code l D y H.size ad zw (tI (tI (sI (tI (tI (sI (sI (sI (sI (sI σ 2 n_3) 2 n_10) 5 n_11) 6 n_12) 32 i_14) 36 f_15) 37 f_16) 29 n_18) 27 f_19) 38 f_20) 0 (show 0 ≤ (n_18).toInt from by first | omega | decide) (show (n_18).toInt < 1200 from by first | omega | decide)) (cwV 1 hts g_q_blockE_3 rfl rfl rfl (by decide +kernel) ⟨Nat.le_of_ble_eq_true rfl, Nat.le_of_ble_eq_true rfl⟩) (x_preV (q := (RX12, TX12, 85)) hK hP hD (ci := 11) (q0 := 0) rfl mwd_o0) rfl rfl hl.1 rfl (lv_room (Nat.le_of_ble_eq_true rfl)) dX12_block_111 ⟨Nat.le_of_ble_eq_true rfl, Nat.le_of_ble_eq_true rfl⟩) hP hD hS hA (fun u H locs hw hP hD hS => ?_)
              obtain ⟨n_21, f_22⟩ := u
              try dsimp only at hw
              have hP : va_P D vwCl (mwd y ad zw (tI (sI (tI (tI (sI (tI (tI (sI (sI (sI (sI (sI σ 2 n_3) 2 n_10) 5 n_11) 6 n_12) 32 i_14) 36 f_15) 37 f_16) 29 n_18) 27 f_19) 38 f_20) 29 n_21) 27 f_22)) H := hP
              have hD : va_D A (mwd y ad zw (tI (sI (tI (tI (sI (tI (tI (sI (sI (sI (sI (sI σ 2 n_3) 2 n_10) 5 n_11) 6 n_12) 32 i_14) 36 f_15) 37 f_16) 29 n_18) 27 f_19) 38 f_20) 29 n_21) 27 f_22)) := hD
              replace hw : n_21.toInt = (n_18).toInt + 1 ∧ f_22 = upd (f_19) (n_18).toInt.toNat (0 : Int32) := hw
              obtain ⟨hcd1, hce1⟩ := hw
              refine lv_aload_n hx hb dX12_block_114 rfl (lv_at hl 0 rfl) ?_
              refine lv_dup hx hb dX12_block_115 rfl ?_
              refine va_get (D := D) (ci := 11) (v := .int (σ.1 39)) (C := RX12) (T := TX12) (N := 85) hx hb hts inX12 hown hK hP 0 mwd_o0 rfl 39 (by decide) fl332 (fun _ h9 => h9) rfl dX12_block_116 ?_
              refine lv_iconst (v := 1) hx hb dX12_block_119 (by decide) ?_
              refine lv_iadd hx hb dX12_block_120 ?_
              refine lv_topi (fun i_23 ei_23 => ?_)
              have vi_23 : i_23.toInt = (σ.1 39).toInt + 1 := by have h9 := x_add ei_23 (by omega) (by omega); omega
              refine va_put (D := D) (ci := 11) (v := .int i_23) (ty := .int) (C := RX12) (T := TX12) (N := 85) hx hb hts inX12 tyX12 tyX12_ok nmX12 hown hK hP hD hS 0 mwd_o0 rfl 39 (by decide) fl332 (fun _ h9 => h9) rfl (by decide +kernel) rfl rfl (Nat.le_of_ble_eq_true rfl) dX12_block_121 (fun H locs hP hD hS => ?_)
              have hP : va_P D vwCl (mwd y ad zw (sI (tI (sI (tI (tI (sI (tI (tI (sI (sI (sI (sI (sI σ 2 n_3) 2 n_10) 5 n_11) 6 n_12) 32 i_14) 36 f_15) 37 f_16) 29 n_18) 27 f_19) 38 f_20) 29 n_21) 27 f_22) 39 i_23)) H := x_trP hP mwd_p0_39
              have hD : va_D A (mwd y ad zw (sI (tI (sI (tI (tI (sI (tI (tI (sI (sI (sI (sI (sI σ 2 n_3) 2 n_10) 5 n_11) 6 n_12) 32 i_14) 36 f_15) 37 f_16) 29 n_18) 27 f_19) 38 f_20) 29 n_21) 27 f_22) 39 i_23)) := x_trD hD mwd_p0_39
              have hP : va_P D vwCl (mwd y ad zw (sI (tI (tI (tI (tI (sI (sI (sI (sI (sI σ 2 n_10) 5 n_11) 6 n_12) 32 i_14) 29 n_21) 27 f_22) 36 f_15) 37 f_16) 38 f_20) 39 i_23)) H := hP
              have hD : va_D A (mwd y ad zw (sI (tI (tI (tI (tI (sI (sI (sI (sI (sI σ 2 n_10) 5 n_11) 6 n_12) 32 i_14) 29 n_21) 27 f_22) 36 f_15) 37 f_16) 38 f_20) 39 i_23)) := hD
              exact x_vretW (u := (n_10, n_11, n_12, i_14, n_21, f_22, f_15, f_16, f_20, i_23)) hx hb hr hQ (by (try dsimp only); exact ⟨by omega, by omega, Or.inr ⟨by omega, by omega, by omega, by omega, by omega, by omega, by rw [hce1, hce0, show n_18.toInt.toNat = (σ.1 29).toInt.toNat + 1 by omega], ef_15, ef_16, _, ef_20, by omega⟩⟩) hP hD hK hS dX12_block_124 hlocks
          · have kc_13 : n_11.toInt ≠ 0 := by have h9 := c_13; simp only [ge_iff_le, gt_iff_lt, x_lt, x_le, x_eq, ne_eq, Int32.not_lt, Int32.not_le] at h9; simp only [Int32.reduceToInt] at h9; omega
            exfalso
            omega
        · replace hw := And.intro hw.1 hw.2.1
          refine lv_aload_n hx hb dX12_block_40 rfl (lv_at hl 0 rfl) ?_
          refine va_get (D := D) (ci := 11) (v := .int n_11) (C := RX12) (T := TX12) (N := 85) hx hb hts inX12 hown hK hP 0 mwd_o0 rfl 5 (by decide) fl191 (fun _ h9 => h9) rfl dX12_block_41 ?_
          refine lv_if_eq (tgt := 48) hx hb dX12_block_44 (by decide) (fun c_24 => ?_) (fun c_24 => ?_)
          · have kc_24 : n_11.toInt = 0 := by have h9 := c_24; simp only [ge_iff_le, gt_iff_lt, x_lt, x_le, x_eq, ne_eq, Int32.not_lt, Int32.not_le] at h9; simp only [Int32.reduceToInt] at h9; omega
            exfalso
            omega
          · have kc_24 : n_11.toInt ≠ 0 := by have h9 := c_24; simp only [ge_iff_le, gt_iff_lt, x_lt, x_le, x_eq, ne_eq, Int32.not_lt, Int32.not_le] at h9; simp only [Int32.reduceToInt] at h9; omega
            have hP : va_P D vwCl (mwd y ad zw (sI (tI (tI (tI (tI (sI (sI (sI (sI (sI σ 2 n_10) 5 n_11) 6 n_12) 32 (σ.1 32)) 29 (σ.1 29)) 27 (σ.2.2.1 27)) 36 (σ.2.2.1 36)) 37 (σ.2.2.1 37)) 38 (σ.2.2.1 38)) 39 (σ.1 39))) H := hP
            have hD : va_D A (mwd y ad zw (sI (tI (tI (tI (tI (sI (sI (sI (sI (sI σ 2 n_10) 5 n_11) 6 n_12) 32 (σ.1 32)) 29 (σ.1 29)) 27 (σ.2.2.1 27)) 36 (σ.2.2.1 36)) 37 (σ.2.2.1 37)) 38 (σ.2.2.1 38)) 39 (σ.1 39))) := hD
            exact x_vretW (u := (n_10, n_11, n_12, (σ.1 32), (σ.1 29), (σ.2.2.1 27), (σ.2.2.1 36), (σ.2.2.1 37), (σ.2.2.1 38), (σ.1 39))) hx hb hr hQ (by (try dsimp only); exact ⟨by omega, by omega, Or.inl ⟨by omega, rfl⟩⟩) hP hD hK hS dX12_block_47 hlocks
      · have kc_9 : (σ.1 32).toInt = 8 := by have h9 := c_9; simp only [ge_iff_le, gt_iff_lt, x_lt, x_le, x_eq, ne_eq, Int32.not_lt, Int32.not_le] at h9; simp only [Int32.reduceToInt] at h9; omega
        refine lv_aload_n hx hb dX12_block_25 rfl (lv_at hl 0 rfl) ?_
        refine lv_iconst (v := 4) hx hb dX12_block_26 (by decide) ?_
        refine lv_aload_n hx hb dX12_block_27 rfl (lv_at hl 0 rfl) ?_
        refine va_get (D := D) (ci := 11) (v := .int n_3) (C := RX12) (T := TX12) (N := 85) hx hb hts inX12 hown hK hP 0 mwd_o0 rfl 2 (by decide) fl197 (fun _ h9 => h9) rfl dX12_block_28 ?_
        refine x_callvW (va_runV (As := [.int 4, .int n_3]) (rest := []) ⟨hx, hb, hml, hown, hts⟩ (q_fail l D y H.size ad zw (sI σ 2 n_3) 4 n_3) (cwV 2 hts g_q_blockE_4 rfl rfl rfl (by decide +kernel) ⟨Nat.le_of_ble_eq_true rfl, Nat.le_of_ble_eq_true rfl⟩) (x_preV (q := (RX12, TX12, 85)) hK hP hD (ci := 11) (q0 := 0) rfl mwd_o0) rfl rfl hl.1 rfl (lv_room (Nat.le_of_ble_eq_true rfl)) dX12_block_31 ⟨Nat.le_of_ble_eq_true rfl, Nat.le_of_ble_eq_true rfl⟩) hP hD hS hA (fun u H locs hw hP hD hS => ?_)
        obtain ⟨b_25, b_26⟩ := u
        try dsimp only at hw
        have hP : va_P D vwCl (mwd y ad zw (sI (sI (sI σ 2 n_3) 5 b_25) 6 b_26)) H := hP
        have hD : va_D A (mwd y ad zw (sI (sI (sI σ 2 n_3) 5 b_25) 6 b_26)) := hD
        replace hw : b_25 = if (σ.1 5) = 0 then (4 : Int32) else (σ.1 5) := hw
        have hbd : b_25.toInt ≠ 0 := by rw [hw]; split <;> first | decide | (rename_i h9; intro h8; exact h9 (Int32.toInt_inj.mp (by rw [h8]; rfl)))
        clear hw
        refine lv_aload_n hx hb dX12_block_34 rfl (lv_at hl 0 rfl) ?_
        refine lv_bipush (v := 123) hx hb dX12_block_35 (by decide) ?_
        refine x_callvW (va_runV (As := [.int 123]) (rest := []) ⟨hx, hb, hml, hown, hts⟩ (q_asksSign l D y H.size ad zw (sI (sI (sI σ 2 n_3) 5 b_25) 6 b_26) 123 (by first | omega | decide) (show 0 ≤ (n_3).toInt from by first | omega | decide) (show (n_3).toInt ≤ ((σ.1 3)).toInt from by first | omega | decide) (show ((σ.1 3)).toInt ≤ 700 from by first | omega | decide)) (cwV 1 hts g_q_blockE_2 rfl rfl rfl (by decide +kernel) ⟨Nat.le_of_ble_eq_true rfl, Nat.le_of_ble_eq_true rfl⟩) (x_preV (q := (RX12, TX12, 85)) hK hP hD (ci := 11) (q0 := 0) rfl mwd_o0) rfl rfl hl.1 rfl (lv_room (Nat.le_of_ble_eq_true rfl)) dX12_block_37 ⟨Nat.le_of_ble_eq_true rfl, Nat.le_of_ble_eq_true rfl⟩) hP hD hS hA (fun u H locs hw hP hD hS => ?_)
        obtain ⟨n_27, n_28, n_29⟩ := u
        try dsimp only at hw
        have hP : va_P D vwCl (mwd y ad zw (sI (sI (sI (sI (sI (sI σ 2 n_3) 5 b_25) 6 b_26) 2 n_27) 5 n_28) 6 n_29)) H := hP
        have hD : va_D A (mwd y ad zw (sI (sI (sI (sI (sI (sI σ 2 n_3) 5 b_25) 6 b_26) 2 n_27) 5 n_28) 6 n_29)) := hD
        replace hw : (n_3).toInt ≤ n_27.toInt ∧ n_27.toInt ≤ ((σ.1 3)).toInt ∧ (n_28.toInt = 0 → (b_25).toInt = 0 ∧ (n_3).toInt + 1 ≤ n_27.toInt) := hw
        have hbz : n_28.toInt ≠ 0 := fun h9 => absurd (hw.2.2 h9).1 (by omega)
        replace hw := And.intro hw.1 hw.2.1
        refine lv_aload_n hx hb dX12_block_40 rfl (lv_at hl 0 rfl) ?_
        refine va_get (D := D) (ci := 11) (v := .int n_28) (C := RX12) (T := TX12) (N := 85) hx hb hts inX12 hown hK hP 0 mwd_o0 rfl 5 (by decide) fl191 (fun _ h9 => h9) rfl dX12_block_41 ?_
        refine lv_if_eq (tgt := 48) hx hb dX12_block_44 (by decide) (fun c_30 => ?_) (fun c_30 => ?_)
        · have kc_30 : n_28.toInt = 0 := by have h9 := c_30; simp only [ge_iff_le, gt_iff_lt, x_lt, x_le, x_eq, ne_eq, Int32.not_lt, Int32.not_le] at h9; simp only [Int32.reduceToInt] at h9; omega
          exfalso
          omega
        · have kc_30 : n_28.toInt ≠ 0 := by have h9 := c_30; simp only [ge_iff_le, gt_iff_lt, x_lt, x_le, x_eq, ne_eq, Int32.not_lt, Int32.not_le] at h9; simp only [Int32.reduceToInt] at h9; omega
          have hP : va_P D vwCl (mwd y ad zw (sI (tI (tI (tI (tI (sI (sI (sI (sI (sI σ 2 n_27) 5 n_28) 6 n_29) 32 (σ.1 32)) 29 (σ.1 29)) 27 (σ.2.2.1 27)) 36 (σ.2.2.1 36)) 37 (σ.2.2.1 37)) 38 (σ.2.2.1 38)) 39 (σ.1 39))) H := hP
          have hD : va_D A (mwd y ad zw (sI (tI (tI (tI (tI (sI (sI (sI (sI (sI σ 2 n_27) 5 n_28) 6 n_29) 32 (σ.1 32)) 29 (σ.1 29)) 27 (σ.2.2.1 27)) 36 (σ.2.2.1 36)) 37 (σ.2.2.1 37)) 38 (σ.2.2.1 38)) 39 (σ.1 39))) := hD
          exact x_vretW (u := (n_27, n_28, n_29, (σ.1 32), (σ.1 29), (σ.2.2.1 27), (σ.2.2.1 36), (σ.2.2.1 37), (σ.2.2.1 38), (σ.1 39))) hx hb hr hQ (by (try dsimp only); exact ⟨by omega, by omega, Or.inl ⟨by omega, rfl⟩⟩) hP hD hK hS dX12_block_47 hlocks

def v_q_closesBlock : List Cond := .code yX12_closesBlock cX12_closesBlock 3 none :: ([.fieldLink RX12 197 "SlopeRunnerModel" "at" "I", .fieldLink RX12 260 "SlopeRunnerModel" "open" "I", .fieldLink RX12 332 "SlopeRunnerModel" "blocks" "I", .fieldLink RX12 85 "SlopeRunnerModel" "blockSort" "[I", .fieldLink RX12 91 "SlopeRunnerModel" "blockJump" "[I", .fieldLink RX12 69 "SlopeRunnerModel" "codes" "[I", .fieldLink RX12 246 "SlopeRunnerModel" "coded" "I", .fieldLink RX12 36 "SlopeRunnerModel" "elseWord" "[C", .fieldLink RX12 88 "SlopeRunnerModel" "blockFrom" "[I"] ++ ((wsV RX12 218 RX12 yX12_takes v_q_takes) ++ ((wsV RX12 335 RX12 yX12_block v_q_blockE) ++ ((wsV RX12 266 RX12 yX12_code v_q_code) ++ wsX120))))
theorem g_q_closesBlock_0 : GoodIn v_q_closesBlock (wsV RX12 218 RX12 yX12_takes v_q_takes) := goodIn_sub (fun w h => List.mem_cons_of_mem _ (List.mem_append_right _ (List.mem_append_left _ h))) (by decide +kernel)
theorem g_q_closesBlock_1 : GoodIn v_q_closesBlock (wsV RX12 335 RX12 yX12_block v_q_blockE) := goodIn_sub (fun w h => List.mem_cons_of_mem _ (List.mem_append_right _ (List.mem_append_right _ (List.mem_append_left _ h)))) (by decide +kernel)
theorem g_q_closesBlock_2 : GoodIn v_q_closesBlock (wsV RX12 266 RX12 yX12_code v_q_code) := goodIn_sub (fun w h => List.mem_cons_of_mem _ (List.mem_append_right _ (List.mem_append_right _ (List.mem_append_right _ (List.mem_append_left _ h))))) (by decide +kernel)
set_option maxHeartbeats 4000000 in
set_option maxRecDepth 100000 in
theorem q_closesBlock (l : Launch) (D : va_G) (y : Nat → ClassId) (sz : Nat) (ad : Nat → Nat) (zw : Nat → Nat → Int32) (σ : OS) (ha0 : 0 ≤ (σ.1 2).toInt) (ha1 : (σ.1 2).toInt ≤ (σ.1 3).toInt) (ha2 : (σ.1 3).toInt ≤ 700) (hb0 : (σ.1 5).toInt = 0) (hbo : (σ.1 39).toInt = (σ.1 32).toInt) (hbl0 : 1 ≤ (σ.1 39).toInt) (ho1 : (σ.1 32).toInt ≤ 8) (hc0 : 0 ≤ (σ.1 29).toInt) (hcb : (σ.1 29).toInt + (σ.1 39).toInt ≤ (σ.1 2).toInt) (hlv : (σ.1 2).toInt < (σ.1 3).toInt) (hpe : PE (σ.2.2.1 27) (σ.1 29).toInt.toNat (σ.2.2.1 24 4).toInt (σ.1 39).toInt.toNat (σ.2.2.1 36) (σ.2.2.1 37) (σ.2.2.1 38) [] true none) : Met l yX12_closesBlock v_q_closesBlock ({ frames := 4, cells := 0, slots := 0, locals := 84 } : Room) (va_Pc [.ref (ad 1)] (xPre D (xT y) (mwd y ad zw σ) sz)) (va_Qv (fun (u : Int32 × Int32 × Int32 × Int32 × Int32 × Int32 × (Nat → Int32) × (Nat → Int32) × (Nat → Int32) × (Nat → Int32) × Int32) => (σ.1 2).toInt ≤ u.2.1.toInt ∧ u.2.1.toInt ≤ (σ.1 3).toInt ∧ (u.2.2.1.toInt = 0 → (σ.1 2).toInt + 1 ≤ u.2.1.toInt ∧ u.2.2.2.2.1.toInt = u.2.2.2.2.2.2.2.2.2.2.toInt ∧ 0 ≤ u.2.2.2.2.2.2.2.2.2.2.toInt ∧ u.2.2.2.2.2.2.2.2.2.2.toInt ≤ 8 ∧ 0 ≤ u.2.2.2.2.2.1.toInt ∧ u.2.2.2.2.2.1.toInt + u.2.2.2.2.2.2.2.2.2.2.toInt ≤ u.2.1.toInt ∧ PE u.2.2.2.2.2.2.1 u.2.2.2.2.2.1.toInt.toNat (σ.2.2.1 24 4).toInt u.2.2.2.2.2.2.2.2.2.2.toInt.toNat u.2.2.2.2.2.2.2.1 u.2.2.2.2.2.2.2.2.1 u.2.2.2.2.2.2.2.2.2.1 [] true none)) (fun (u : Int32 × Int32 × Int32 × Int32 × Int32 × Int32 × (Nat → Int32) × (Nat → Int32) × (Nat → Int32) × (Nat → Int32) × Int32) => xB D (xT y) (va_A (mwd y ad zw σ) sz) (mwd y ad zw (sI (tI (tI (tI (tI (sI (sI (sI (sI (sI (sI σ 4 u.1) 2 u.2.1) 5 u.2.2.1) 6 u.2.2.2.1) 32 u.2.2.2.2.1) 29 u.2.2.2.2.2.1) 27 u.2.2.2.2.2.2.1) 36 u.2.2.2.2.2.2.2.1) 37 u.2.2.2.2.2.2.2.2.1) 38 u.2.2.2.2.2.2.2.2.2.1) 39 u.2.2.2.2.2.2.2.2.2.2))) (va_A (mwd y ad zw σ) sz)) 0 0 (va_A (mwd y ad zw σ) sz) := by
  refine x_metv (cc := cX12_closesBlock) (maxL := 3) (by decide) rfl (Nat.le_of_ble_eq_true rfl) ?_
  intro p e s m below meth c A H locs Q hx hb hml hown hts hr hlocks hmn hA hP hK hD hS ls hl hQ
  have hl : lv_has ls 3 [(0, .ref (ad 1))] := hl
  have fl197 := hts (.fieldLink RX12 197 "SlopeRunnerModel" "at" "I") (List.mem_of_getElem? (i := 1) rfl)
  have inX12 : ∀ w ∈ wsX120, w ∈ v_q_closesBlock := (fun w h => List.mem_cons_of_mem _ (List.mem_append_right _ (List.mem_append_right _ (List.mem_append_right _ (List.mem_append_right _ h)))))
  have kk_1 : (1 : Int32).toInt = 1 := rfl
  have fl260 := hts (.fieldLink RX12 260 "SlopeRunnerModel" "open" "I") (List.mem_of_getElem? (i := 2) rfl)
  have fl332 := hts (.fieldLink RX12 332 "SlopeRunnerModel" "blocks" "I") (List.mem_of_getElem? (i := 3) rfl)
  have fl85 := hts (.fieldLink RX12 85 "SlopeRunnerModel" "blockSort" "[I") (List.mem_of_getElem? (i := 4) rfl)
  have fl91 := hts (.fieldLink RX12 91 "SlopeRunnerModel" "blockJump" "[I") (List.mem_of_getElem? (i := 5) rfl)
  have kk_2 : (2 : Int32).toInt = 2 := rfl
  have kk_0 : (0 : Int32).toInt = 0 := rfl
  have fl69 := hts (.fieldLink RX12 69 "SlopeRunnerModel" "codes" "[I") (List.mem_of_getElem? (i := 6) rfl)
  have fl246 := hts (.fieldLink RX12 246 "SlopeRunnerModel" "coded" "I") (List.mem_of_getElem? (i := 7) rfl)
  have fl36 := hts (.fieldLink RX12 36 "SlopeRunnerModel" "elseWord" "[C") (List.mem_of_getElem? (i := 8) rfl)
  have kk_502 : (502 : Int32).toInt = 502 := rfl
  have fl88 := hts (.fieldLink RX12 88 "SlopeRunnerModel" "blockFrom" "[I") (List.mem_of_getElem? (i := 9) rfl)
  refine lv_aload_n hx hb dX12_closesBlock_0 rfl (lv_at hl 0 rfl) ?_
  refine lv_dup hx hb dX12_closesBlock_1 rfl ?_
  refine va_get (D := D) (ci := 11) (v := .int (σ.1 2)) (C := RX12) (T := TX12) (N := 85) hx hb hts inX12 hown hK hP 0 mwd_o0 rfl 2 (by decide) fl197 (fun _ h9 => h9) rfl dX12_closesBlock_2 ?_
  refine lv_iconst (v := 1) hx hb dX12_closesBlock_5 (by decide) ?_
  refine lv_iadd hx hb dX12_closesBlock_6 ?_
  refine lv_topi (fun i_1 ei_1 => ?_)
  have vi_1 : i_1.toInt = (σ.1 2).toInt + 1 := by have h9 := x_add ei_1 (by omega) (by omega); omega
  refine va_put (D := D) (ci := 11) (v := .int i_1) (ty := .int) (C := RX12) (T := TX12) (N := 85) hx hb hts inX12 tyX12 tyX12_ok nmX12 hown hK hP hD hS 0 mwd_o0 rfl 2 (by decide) fl197 (fun _ h9 => h9) rfl (by decide +kernel) rfl rfl (Nat.le_of_ble_eq_true rfl) dX12_closesBlock_7 (fun H locs hP hD hS => ?_)
  have hP : va_P D vwCl (mwd y ad zw (sI σ 2 i_1)) H := x_trP hP mwd_p0_2
  have hD : va_D A (mwd y ad zw (sI σ 2 i_1)) := x_trD hD mwd_p0_2
  refine lv_aload_n hx hb dX12_closesBlock_10 rfl (lv_at hl 0 rfl) ?_
  refine lv_dup hx hb dX12_closesBlock_11 rfl ?_
  refine va_get (D := D) (ci := 11) (v := .int (σ.1 32)) (C := RX12) (T := TX12) (N := 85) hx hb hts inX12 hown hK hP 0 mwd_o0 rfl 32 (by decide) fl260 (fun _ h9 => h9) rfl dX12_closesBlock_12 ?_
  refine lv_iconst (v := 1) hx hb dX12_closesBlock_15 (by decide) ?_
  refine lv_isub hx hb dX12_closesBlock_16 ?_
  refine lv_topi (fun i_2 ei_2 => ?_)
  have vi_2 : i_2.toInt = (σ.1 32).toInt - 1 := by have h9 := x_sub ei_2 (by omega) (by omega); omega
  refine va_put (D := D) (ci := 11) (v := .int i_2) (ty := .int) (C := RX12) (T := TX12) (N := 85) hx hb hts inX12 tyX12 tyX12_ok nmX12 hown hK hP hD hS 0 mwd_o0 rfl 32 (by decide) fl260 (fun _ h9 => h9) rfl (by decide +kernel) rfl rfl (Nat.le_of_ble_eq_true rfl) dX12_closesBlock_17 (fun H locs hP hD hS => ?_)
  have hP : va_P D vwCl (mwd y ad zw (sI (sI σ 2 i_1) 32 i_2)) H := x_trP hP mwd_p0_32
  have hD : va_D A (mwd y ad zw (sI (sI σ 2 i_1) 32 i_2)) := x_trD hD mwd_p0_32
  refine lv_aload_n hx hb dX12_closesBlock_20 rfl (lv_at hl 0 rfl) ?_
  refine lv_dup hx hb dX12_closesBlock_21 rfl ?_
  refine va_get (D := D) (ci := 11) (v := .int (σ.1 39)) (C := RX12) (T := TX12) (N := 85) hx hb hts inX12 hown hK hP 0 mwd_o0 rfl 39 (by decide) fl332 (fun _ h9 => h9) rfl dX12_closesBlock_22 ?_
  refine lv_iconst (v := 1) hx hb dX12_closesBlock_25 (by decide) ?_
  refine lv_isub hx hb dX12_closesBlock_26 ?_
  refine lv_topi (fun i_3 ei_3 => ?_)
  have vi_3 : i_3.toInt = (σ.1 39).toInt - 1 := by have h9 := x_sub ei_3 (by omega) (by omega); omega
  refine va_put (D := D) (ci := 11) (v := .int i_3) (ty := .int) (C := RX12) (T := TX12) (N := 85) hx hb hts inX12 tyX12 tyX12_ok nmX12 hown hK hP hD hS 0 mwd_o0 rfl 39 (by decide) fl332 (fun _ h9 => h9) rfl (by decide +kernel) rfl rfl (Nat.le_of_ble_eq_true rfl) dX12_closesBlock_27 (fun H locs hP hD hS => ?_)
  have hP : va_P D vwCl (mwd y ad zw (sI (sI (sI σ 2 i_1) 32 i_2) 39 i_3)) H := x_trP hP mwd_p0_39
  have hD : va_D A (mwd y ad zw (sI (sI (sI σ 2 i_1) 32 i_2) 39 i_3)) := x_trD hD mwd_p0_39
  obtain ⟨i9, hi9, hi8⟩ := PE_jump hpe (show ((σ.1 39).toInt.toNat - 1) < (σ.1 39).toInt.toNat by omega)
  have hpe2 : PE (σ.2.2.1 27) (σ.1 29).toInt.toNat (σ.2.2.1 24 4).toInt (((σ.1 39).toInt.toNat - 1) + 1) (σ.2.2.1 36) (σ.2.2.1 37) (σ.2.2.1 38) [] true none := by rw [show (σ.1 39).toInt.toNat - 1 + 1 = (σ.1 39).toInt.toNat by omega]; exact hpe
  refine lv_aload_n hx hb dX12_closesBlock_30 rfl (lv_at hl 0 rfl) ?_
  refine va_get (D := D) (ci := 11) (v := .ref (ad 36)) (C := RX12) (T := TX12) (N := 85) hx hb hts inX12 hown hK hP 0 mwd_o0 rfl 36 (by decide) fl85 (fun _ h9 => h9) rfl dX12_closesBlock_31 ?_
  refine lv_aload_n hx hb dX12_closesBlock_34 rfl (lv_at hl 0 rfl) ?_
  refine va_get (D := D) (ci := 11) (v := .int i_3) (C := RX12) (T := TX12) (N := 85) hx hb hts inX12 hown hK hP 0 mwd_o0 rfl 39 (by decide) fl332 (fun _ h9 => h9) rfl dX12_closesBlock_35 ?_
  refine va_iald hx hb hK hP 24 2 mwd_a24 rfl (x_in (by omega) (by omega)) dX12_closesBlock_38 ?_
  refine lv_topi (fun i_4 ei_4 => ?_)
  have ei_4 : i_4 = (σ.2.2.1 36) (Int32.toNatClampNeg i_3) := ei_4
  have qi_4 : i_4.toInt = ((σ.2.2.1 36) ((σ.1 39).toInt.toNat - 1)).toInt := by rw [ei_4, x_cl (n := ((σ.1 39).toInt.toNat - 1)) (by omega)]
  refine lv_istore_n (lv' := [(1, .int i_4), (0, .ref (ad 1))]) hx hb dX12_closesBlock_39 rfl hl (by decide) rfl (fun ls hl => ?_)
  refine lv_aload_n hx hb dX12_closesBlock_40 rfl (lv_at hl 1 rfl) ?_
  refine va_get (D := D) (ci := 11) (v := .ref (ad 38)) (C := RX12) (T := TX12) (N := 85) hx hb hts inX12 hown hK hP 0 mwd_o0 rfl 38 (by decide) fl91 (fun _ h9 => h9) rfl dX12_closesBlock_41 ?_
  refine lv_aload_n hx hb dX12_closesBlock_44 rfl (lv_at hl 1 rfl) ?_
  refine va_get (D := D) (ci := 11) (v := .int i_3) (C := RX12) (T := TX12) (N := 85) hx hb hts inX12 hown hK hP 0 mwd_o0 rfl 39 (by decide) fl332 (fun _ h9 => h9) rfl dX12_closesBlock_45 ?_
  refine va_iald hx hb hK hP 26 2 mwd_a26 rfl (x_in (by omega) (by omega)) dX12_closesBlock_48 ?_
  refine lv_topi (fun i_5 ei_5 => ?_)
  have ei_5 : i_5 = (σ.2.2.1 38) (Int32.toNatClampNeg i_3) := ei_5
  have qi_5 : i_5.toInt = ((σ.2.2.1 38) ((σ.1 39).toInt.toNat - 1)).toInt := by rw [ei_5, x_cl (n := ((σ.1 39).toInt.toNat - 1)) (by omega)]
  refine lv_istore_n (lv' := [(2, .int i_5), (1, .int i_4), (0, .ref (ad 1))]) hx hb dX12_closesBlock_49 rfl hl (by decide) rfl (fun ls hl => ?_)
  refine lv_iload_n hx hb dX12_closesBlock_50 rfl (lv_at hl 1 rfl) ?_
  refine lv_iconst (v := 2) hx hb dX12_closesBlock_51 (by decide) ?_
  refine lv_icmp_ne (tgt := 75) hx hb dX12_closesBlock_52 (by decide) (fun c_6 => ?_) (fun c_6 => ?_)
  · have kc_6 : i_4.toInt ≠ 2 := by have h9 := c_6; simp only [ge_iff_le, gt_iff_lt, x_lt, x_le, x_eq, ne_eq, Int32.not_lt, Int32.not_le] at h9; simp only [Int32.reduceToInt] at h9; omega
    refine lv_iload_n hx hb dX12_closesBlock_75 rfl (lv_at hl 1 rfl) ?_
    refine lv_if_ne (tgt := 96) hx hb dX12_closesBlock_76 (by decide) (fun c_7 => ?_) (fun c_7 => ?_)
    · have kc_7 : i_4.toInt ≠ 0 := by have h9 := c_7; simp only [ge_iff_le, gt_iff_lt, x_lt, x_le, x_eq, ne_eq, Int32.not_lt, Int32.not_le] at h9; simp only [Int32.reduceToInt] at h9; omega
      refine lv_aload_n hx hb dX12_closesBlock_96 rfl (lv_at hl 2 rfl) ?_
      refine va_get (D := D) (ci := 11) (v := .ref (ad 27)) (C := RX12) (T := TX12) (N := 85) hx hb hts inX12 hown hK hP 0 mwd_o0 rfl 27 (by decide) fl69 (fun _ h9 => h9) rfl dX12_closesBlock_97 ?_
      refine lv_iload_n hx hb dX12_closesBlock_100 rfl (lv_at hl 0 rfl) ?_
      refine lv_aload_n hx hb dX12_closesBlock_101 rfl (lv_at hl 2 rfl) ?_
      refine va_get (D := D) (ci := 11) (v := .int (σ.1 29)) (C := RX12) (T := TX12) (N := 85) hx hb hts inX12 hown hK hP 0 mwd_o0 rfl 29 (by decide) fl246 (fun _ h9 => h9) rfl dX12_closesBlock_102 ?_
      refine va_iast hx hb hK hP hD hS 19 2 mwd_a19 rfl (x_in (by omega) (by omega)) dX12_closesBlock_105 (fun H locs hP hD hS => ?_)
      obtain ⟨f_8, ef_8⟩ : ∃ z9 : Nat → Int32, z9 = (upd (σ.2.2.1 27) (Int32.toNatClampNeg i_5) (σ.1 29)) := ⟨_, rfl⟩
      rw [cj_ulo (by show Int.toNat _ < _; omega)] at hP hD
      have hP : va_P D vwCl (mwd y ad zw (tI (sI (sI (sI σ 2 i_1) 32 i_2) 39 i_3) 27 f_8)) H := by rw [ef_8]; exact x_trP hP mwd_s19
      have hD : va_D A (mwd y ad zw (tI (sI (sI (sI σ 2 i_1) 32 i_2) 39 i_3) 27 f_8)) := by rw [ef_8]; exact x_trD hD mwd_s19
      rw [x_cl (n := i9 + 1) (by omega)] at ef_8
      have hP : va_P D vwCl (mwd y ad zw (sI (tI (tI (tI (tI (sI (sI (sI (sI (sI (sI σ 4 (σ.1 4)) 2 i_1) 5 (σ.1 5)) 6 (σ.1 6)) 32 i_2) 29 (σ.1 29)) 27 f_8) 36 (σ.2.2.1 36)) 37 (σ.2.2.1 37)) 38 (σ.2.2.1 38)) 39 i_3)) H := hP
      have hD : va_D A (mwd y ad zw (sI (tI (tI (tI (tI (sI (sI (sI (sI (sI (sI σ 4 (σ.1 4)) 2 i_1) 5 (σ.1 5)) 6 (σ.1 6)) 32 i_2) 29 (σ.1 29)) 27 f_8) 36 (σ.2.2.1 36)) 37 (σ.2.2.1 37)) 38 (σ.2.2.1 38)) 39 i_3)) := hD
      exact x_vretW (u := ((σ.1 4), i_1, (σ.1 5), (σ.1 6), i_2, (σ.1 29), f_8, (σ.2.2.1 36), (σ.2.2.1 37), (σ.2.2.1 38), i_3)) hx hb hr hQ (by (try dsimp only); exact ⟨by omega, by omega, fun h9 => ⟨by omega, by omega, by omega, by omega, by omega, by omega, by rw [ef_8, show i_3.toInt.toNat = ((σ.1 39).toInt.toNat - 1) by omega]; exact PE_close hpe2 hi9 (by omega)⟩⟩) hP hD hK hS dX12_closesBlock_106 hlocks
    · have kc_7 : i_4.toInt = 0 := by have h9 := c_7; simp only [ge_iff_le, gt_iff_lt, x_lt, x_le, x_eq, ne_eq, Int32.not_lt, Int32.not_le] at h9; simp only [Int32.reduceToInt] at h9; omega
      refine lv_aload_n hx hb dX12_closesBlock_79 rfl (lv_at hl 2 rfl) ?_
      refine lv_aload_n hx hb dX12_closesBlock_80 rfl (lv_at hl 2 rfl) ?_
      refine va_get (D := D) (ci := 11) (v := .ref (ad 15)) (C := RX12) (T := TX12) (N := 85) hx hb hts inX12 hown hK hP 0 mwd_o0 rfl 15 (by decide) fl36 (fun _ h9 => h9) rfl dX12_closesBlock_81 ?_
      refine x_calliW (va_runV (As := [.ref (ad 15)]) (rest := []) ⟨hx, hb, hml, hown, hts⟩ (q_takes l D y H.size ad zw (sI (sI (sI σ 2 i_1) 32 i_2) 39 i_3) (ad 15) 4 8 (zw 15) (fun _ => rfl) (by decide) (by decide) (show 0 ≤ (i_1).toInt from by first | omega | decide) (show (i_1).toInt ≤ ((σ.1 3)).toInt from by first | omega | decide) (show ((σ.1 3)).toInt ≤ 700 from by first | omega | decide)) (cwV 1 hts g_q_closesBlock_0 rfl rfl rfl (by decide +kernel) ⟨Nat.le_of_ble_eq_true rfl, Nat.le_of_ble_eq_true rfl⟩) (x_preV (q := (RX12, TX12, 85)) hK hP hD (ci := 11) (q0 := 0) rfl mwd_o0) rfl rfl hl.1 rfl (lv_room (Nat.le_of_ble_eq_true rfl)) dX12_closesBlock_84 ⟨Nat.le_of_ble_eq_true rfl, Nat.le_of_ble_eq_true rfl⟩) hP hD hS hA (fun r_9 u H locs hw hP hD hS => ?_)
      obtain ⟨n_10, n_11⟩ := u
      try dsimp only at hw
      have hP : va_P D vwCl (mwd y ad zw (sI (sI (sI (sI (sI σ 2 i_1) 32 i_2) 39 i_3) 2 n_10) 4 n_11)) H := hP
      have hD : va_D A (mwd y ad zw (sI (sI (sI (sI (sI σ 2 i_1) 32 i_2) 39 i_3) 2 n_10) 4 n_11)) := hD
      replace hw : (i_1).toInt ≤ n_10.toInt ∧ n_10.toInt ≤ ((σ.1 3)).toInt ∧ ((r_9.toInt = 0 ∧ n_11 = ((σ.1 4))) ∨ (r_9.toInt = 1 ∧ ((σ.1 5)).toInt = 0 ∧ (i_1).toInt + 4 ≤ n_10.toInt)) := hw
      rcases hw with ⟨ht1, ht2, ⟨ht3, ht4⟩ | ⟨ht3, ht4, ht5⟩⟩
      · skip
        refine lv_if_eq (tgt := 96) hx hb dX12_closesBlock_87 (by decide) (fun c_12 => ?_) (fun c_12 => ?_)
        · have kc_12 : r_9.toInt = 0 := by have h9 := c_12; simp only [ge_iff_le, gt_iff_lt, x_lt, x_le, x_eq, ne_eq, Int32.not_lt, Int32.not_le] at h9; simp only [Int32.reduceToInt] at h9; omega
          refine lv_aload_n hx hb dX12_closesBlock_96 rfl (lv_at hl 2 rfl) ?_
          refine va_get (D := D) (ci := 11) (v := .ref (ad 27)) (C := RX12) (T := TX12) (N := 85) hx hb hts inX12 hown hK hP 0 mwd_o0 rfl 27 (by decide) fl69 (fun _ h9 => h9) rfl dX12_closesBlock_97 ?_
          refine lv_iload_n hx hb dX12_closesBlock_100 rfl (lv_at hl 0 rfl) ?_
          refine lv_aload_n hx hb dX12_closesBlock_101 rfl (lv_at hl 2 rfl) ?_
          refine va_get (D := D) (ci := 11) (v := .int (σ.1 29)) (C := RX12) (T := TX12) (N := 85) hx hb hts inX12 hown hK hP 0 mwd_o0 rfl 29 (by decide) fl246 (fun _ h9 => h9) rfl dX12_closesBlock_102 ?_
          refine va_iast hx hb hK hP hD hS 19 2 mwd_a19 rfl (x_in (by omega) (by omega)) dX12_closesBlock_105 (fun H locs hP hD hS => ?_)
          obtain ⟨f_13, ef_13⟩ : ∃ z9 : Nat → Int32, z9 = (upd (σ.2.2.1 27) (Int32.toNatClampNeg i_5) (σ.1 29)) := ⟨_, rfl⟩
          rw [cj_ulo (by show Int.toNat _ < _; omega)] at hP hD
          have hP : va_P D vwCl (mwd y ad zw (tI (sI (sI (sI (sI (sI σ 2 i_1) 32 i_2) 39 i_3) 2 n_10) 4 n_11) 27 f_13)) H := by rw [ef_13]; exact x_trP hP mwd_s19
          have hD : va_D A (mwd y ad zw (tI (sI (sI (sI (sI (sI σ 2 i_1) 32 i_2) 39 i_3) 2 n_10) 4 n_11) 27 f_13)) := by rw [ef_13]; exact x_trD hD mwd_s19
          rw [x_cl (n := i9 + 1) (by omega)] at ef_13
          have hP : va_P D vwCl (mwd y ad zw (sI (tI (tI (tI (tI (sI (sI (sI (sI (sI (sI σ 4 n_11) 2 n_10) 5 (σ.1 5)) 6 (σ.1 6)) 32 i_2) 29 (σ.1 29)) 27 f_13) 36 (σ.2.2.1 36)) 37 (σ.2.2.1 37)) 38 (σ.2.2.1 38)) 39 i_3)) H := hP
          have hD : va_D A (mwd y ad zw (sI (tI (tI (tI (tI (sI (sI (sI (sI (sI (sI σ 4 n_11) 2 n_10) 5 (σ.1 5)) 6 (σ.1 6)) 32 i_2) 29 (σ.1 29)) 27 f_13) 36 (σ.2.2.1 36)) 37 (σ.2.2.1 37)) 38 (σ.2.2.1 38)) 39 i_3)) := hD
          exact x_vretW (u := (n_11, n_10, (σ.1 5), (σ.1 6), i_2, (σ.1 29), f_13, (σ.2.2.1 36), (σ.2.2.1 37), (σ.2.2.1 38), i_3)) hx hb hr hQ (by (try dsimp only); exact ⟨by omega, by omega, fun h9 => ⟨by omega, by omega, by omega, by omega, by omega, by omega, by rw [ef_13, show i_3.toInt.toNat = ((σ.1 39).toInt.toNat - 1) by omega]; exact PE_close hpe2 hi9 (by omega)⟩⟩) hP hD hK hS dX12_closesBlock_106 hlocks
        · have kc_12 : r_9.toInt ≠ 0 := by have h9 := c_12; simp only [ge_iff_le, gt_iff_lt, x_lt, x_le, x_eq, ne_eq, Int32.not_lt, Int32.not_le] at h9; simp only [Int32.reduceToInt] at h9; omega
          exfalso
          omega
      · skip
        refine lv_if_eq (tgt := 96) hx hb dX12_closesBlock_87 (by decide) (fun c_14 => ?_) (fun c_14 => ?_)
        · have kc_14 : r_9.toInt = 0 := by have h9 := c_14; simp only [ge_iff_le, gt_iff_lt, x_lt, x_le, x_eq, ne_eq, Int32.not_lt, Int32.not_le] at h9; simp only [Int32.reduceToInt] at h9; omega
          exfalso
          omega
        · have kc_14 : r_9.toInt ≠ 0 := by have h9 := c_14; simp only [ge_iff_le, gt_iff_lt, x_lt, x_le, x_eq, ne_eq, Int32.not_lt, Int32.not_le] at h9; simp only [Int32.reduceToInt] at h9; omega
          refine lv_aload_n hx hb dX12_closesBlock_90 rfl (lv_at hl 2 rfl) ?_
          refine lv_iconst (v := 1) hx hb dX12_closesBlock_91 (by decide) ?_
          refine lv_iconst (v := 0) hx hb dX12_closesBlock_92 (by decide) ?_
          refine x_callvW (va_runV (As := [.int 1, .int 0]) (rest := []) ⟨hx, hb, hml, hown, hts⟩ (q_blockE l D y H.size ad zw (sI (sI (sI (sI (sI σ 2 i_1) 32 i_2) 39 i_3) 2 n_10) 4 n_11) (show 0 ≤ (n_10).toInt from by first | omega | decide) (show (n_10).toInt ≤ ((σ.1 3)).toInt from by first | omega | decide) (show ((σ.1 3)).toInt ≤ 700 from by first | omega | decide) (show ((σ.1 5)).toInt = 0 from by first | omega | decide) (show (i_3).toInt = (i_2).toInt from by first | omega | decide) (show 0 ≤ (i_3).toInt from by first | omega | decide) (show (i_2).toInt ≤ 8 from by first | omega | decide) (show 0 ≤ ((σ.1 29)).toInt from by first | omega | decide) (show ((σ.1 29)).toInt < 1190 from by first | omega | decide)) (cwV 2 hts g_q_closesBlock_1 rfl rfl rfl (by decide +kernel) ⟨Nat.le_of_ble_eq_true rfl, Nat.le_of_ble_eq_true rfl⟩) (x_preV (q := (RX12, TX12, 85)) hK hP hD (ci := 11) (q0 := 0) rfl mwd_o0) rfl rfl hl.1 rfl (lv_room (Nat.le_of_ble_eq_true rfl)) dX12_closesBlock_93 ⟨Nat.le_of_ble_eq_true rfl, Nat.le_of_ble_eq_true rfl⟩) hP hD hS hA (fun u H locs hw hP hD hS => ?_)
          obtain ⟨n_15, n_16, n_17, n_18, n_19, f_20, f_21, f_22, f_23, n_24⟩ := u
          try dsimp only at hw
          have hP : va_P D vwCl (mwd y ad zw (sI (tI (tI (tI (tI (sI (sI (sI (sI (sI (sI (sI (sI (sI (sI σ 2 i_1) 32 i_2) 39 i_3) 2 n_10) 4 n_11) 2 n_15) 5 n_16) 6 n_17) 32 n_18) 29 n_19) 27 f_20) 36 f_21) 37 f_22) 38 f_23) 39 n_24)) H := hP
          have hD : va_D A (mwd y ad zw (sI (tI (tI (tI (tI (sI (sI (sI (sI (sI (sI (sI (sI (sI (sI σ 2 i_1) 32 i_2) 39 i_3) 2 n_10) 4 n_11) 2 n_15) 5 n_16) 6 n_17) 32 n_18) 29 n_19) 27 f_20) 36 f_21) 37 f_22) 38 f_23) 39 n_24)) := hD
          replace hw : (n_10).toInt ≤ n_15.toInt ∧ n_15.toInt ≤ ((σ.1 3)).toInt ∧ ((n_16.toInt ≠ 0 ∧ n_19 = ((σ.1 29))) ∨ (n_16.toInt = 0 ∧ (n_10).toInt + 1 ≤ n_15.toInt ∧ n_18.toInt = (i_2).toInt + 1 ∧ n_18.toInt ≤ 8 ∧ n_24.toInt = (i_3).toInt + 1 ∧ n_19.toInt = ((σ.1 29)).toInt + 2 ∧ f_20 = upd (upd ((σ.2.2.1 27)) ((σ.1 29)).toInt.toNat 502) (((σ.1 29)).toInt.toNat + 1) 0 ∧ f_21 = upd ((σ.2.2.1 36)) (i_3).toInt.toNat (1 : Int32) ∧ f_22 = upd ((σ.2.2.1 37)) (i_3).toInt.toNat (0 : Int32) ∧ ∃ z9 : Int32, f_23 = upd ((σ.2.2.1 38)) (i_3).toInt.toNat z9 ∧ z9.toInt = ((σ.1 29)).toInt + 1)) := hw
          rcases hw with ⟨hw1, hw2, ⟨hw3, hw4⟩ | ⟨hw3, hw4, hw5, hw6, hw7, hw8, hw9, hw10, hw11, z9, hw12, hw13⟩⟩
          · have hw5 : n_19.toInt = (σ.1 29).toInt := by rw [hw4]
            refine lv_aload_n hx hb dX12_closesBlock_96 rfl (lv_at hl 2 rfl) ?_
            refine va_get (D := D) (ci := 11) (v := .ref (ad 27)) (C := RX12) (T := TX12) (N := 85) hx hb hts inX12 hown hK hP 0 mwd_o0 rfl 27 (by decide) fl69 (fun _ h9 => h9) rfl dX12_closesBlock_97 ?_
            refine lv_iload_n hx hb dX12_closesBlock_100 rfl (lv_at hl 0 rfl) ?_
            refine lv_aload_n hx hb dX12_closesBlock_101 rfl (lv_at hl 2 rfl) ?_
            refine va_get (D := D) (ci := 11) (v := .int n_19) (C := RX12) (T := TX12) (N := 85) hx hb hts inX12 hown hK hP 0 mwd_o0 rfl 29 (by decide) fl246 (fun _ h9 => h9) rfl dX12_closesBlock_102 ?_
            refine va_iast hx hb hK hP hD hS 19 2 mwd_a19 rfl (x_in (by omega) (by omega)) dX12_closesBlock_105 (fun H locs hP hD hS => ?_)
            obtain ⟨f_25, ef_25⟩ : ∃ z9 : Nat → Int32, z9 = (upd f_20 (Int32.toNatClampNeg i_5) n_19) := ⟨_, rfl⟩
            rw [cj_ulo (by show Int.toNat _ < _; omega)] at hP hD
            have hP : va_P D vwCl (mwd y ad zw (tI (sI (tI (tI (tI (tI (sI (sI (sI (sI (sI (sI (sI (sI (sI (sI σ 2 i_1) 32 i_2) 39 i_3) 2 n_10) 4 n_11) 2 n_15) 5 n_16) 6 n_17) 32 n_18) 29 n_19) 27 f_20) 36 f_21) 37 f_22) 38 f_23) 39 n_24) 27 f_25)) H := by rw [ef_25]; exact x_trP hP mwd_s19
            have hD : va_D A (mwd y ad zw (tI (sI (tI (tI (tI (tI (sI (sI (sI (sI (sI (sI (sI (sI (sI (sI σ 2 i_1) 32 i_2) 39 i_3) 2 n_10) 4 n_11) 2 n_15) 5 n_16) 6 n_17) 32 n_18) 29 n_19) 27 f_20) 36 f_21) 37 f_22) 38 f_23) 39 n_24) 27 f_25)) := by rw [ef_25]; exact x_trD hD mwd_s19
            rw [x_cl (n := i9 + 1) (by omega)] at ef_25
            have hP : va_P D vwCl (mwd y ad zw (sI (tI (tI (tI (tI (sI (sI (sI (sI (sI (sI σ 4 n_11) 2 n_15) 5 n_16) 6 n_17) 32 n_18) 29 n_19) 27 f_25) 36 f_21) 37 f_22) 38 f_23) 39 n_24)) H := hP
            have hD : va_D A (mwd y ad zw (sI (tI (tI (tI (tI (sI (sI (sI (sI (sI (sI σ 4 n_11) 2 n_15) 5 n_16) 6 n_17) 32 n_18) 29 n_19) 27 f_25) 36 f_21) 37 f_22) 38 f_23) 39 n_24)) := hD
            exact x_vretW (u := (n_11, n_15, n_16, n_17, n_18, n_19, f_25, f_21, f_22, f_23, n_24)) hx hb hr hQ (by (try dsimp only); exact ⟨by omega, by omega, fun h9 => absurd h9 (by omega)⟩) hP hD hK hS dX12_closesBlock_106 hlocks
          · skip
            refine lv_aload_n hx hb dX12_closesBlock_96 rfl (lv_at hl 2 rfl) ?_
            refine va_get (D := D) (ci := 11) (v := .ref (ad 27)) (C := RX12) (T := TX12) (N := 85) hx hb hts inX12 hown hK hP 0 mwd_o0 rfl 27 (by decide) fl69 (fun _ h9 => h9) rfl dX12_closesBlock_97 ?_
            refine lv_iload_n hx hb dX12_closesBlock_100 rfl (lv_at hl 0 rfl) ?_
            refine lv_aload_n hx hb dX12_closesBlock_101 rfl (lv_at hl 2 rfl) ?_
            refine va_get (D := D) (ci := 11) (v := .int n_19) (C := RX12) (T := TX12) (N := 85) hx hb hts inX12 hown hK hP 0 mwd_o0 rfl 29 (by decide) fl246 (fun _ h9 => h9) rfl dX12_closesBlock_102 ?_
            refine va_iast hx hb hK hP hD hS 19 2 mwd_a19 rfl (x_in (by omega) (by omega)) dX12_closesBlock_105 (fun H locs hP hD hS => ?_)
            obtain ⟨f_26, ef_26⟩ : ∃ z9 : Nat → Int32, z9 = (upd f_20 (Int32.toNatClampNeg i_5) n_19) := ⟨_, rfl⟩
            rw [cj_ulo (by show Int.toNat _ < _; omega)] at hP hD
            have hP : va_P D vwCl (mwd y ad zw (tI (sI (tI (tI (tI (tI (sI (sI (sI (sI (sI (sI (sI (sI (sI (sI σ 2 i_1) 32 i_2) 39 i_3) 2 n_10) 4 n_11) 2 n_15) 5 n_16) 6 n_17) 32 n_18) 29 n_19) 27 f_20) 36 f_21) 37 f_22) 38 f_23) 39 n_24) 27 f_26)) H := by rw [ef_26]; exact x_trP hP mwd_s19
            have hD : va_D A (mwd y ad zw (tI (sI (tI (tI (tI (tI (sI (sI (sI (sI (sI (sI (sI (sI (sI (sI σ 2 i_1) 32 i_2) 39 i_3) 2 n_10) 4 n_11) 2 n_15) 5 n_16) 6 n_17) 32 n_18) 29 n_19) 27 f_20) 36 f_21) 37 f_22) 38 f_23) 39 n_24) 27 f_26)) := by rw [ef_26]; exact x_trD hD mwd_s19
            rw [x_cl (n := i9 + 1) (by omega)] at ef_26
            have hP : va_P D vwCl (mwd y ad zw (sI (tI (tI (tI (tI (sI (sI (sI (sI (sI (sI σ 4 n_11) 2 n_15) 5 n_16) 6 n_17) 32 n_18) 29 n_19) 27 f_26) 36 f_21) 37 f_22) 38 f_23) 39 n_24)) H := hP
            have hD : va_D A (mwd y ad zw (sI (tI (tI (tI (tI (sI (sI (sI (sI (sI (sI σ 4 n_11) 2 n_15) 5 n_16) 6 n_17) 32 n_18) 29 n_19) 27 f_26) 36 f_21) 37 f_22) 38 f_23) 39 n_24)) := hD
            exact x_vretW (u := (n_11, n_15, n_16, n_17, n_18, n_19, f_26, f_21, f_22, f_23, n_24)) hx hb hr hQ (by (try dsimp only); exact ⟨by omega, by omega, fun h9 => ⟨by omega, by omega, by omega, by omega, by omega, by omega, by rw [ef_26, hw9, hw10, hw11, hw12, show n_24.toInt.toNat = ((σ.1 39).toInt.toNat - 1) + 1 by omega, show n_19.toInt.toNat = (σ.1 29).toInt.toNat + 2 by omega, show i_3.toInt.toNat = ((σ.1 39).toInt.toNat - 1) by omega]; exact PE_else hpe2 hi9 rfl (by omega) (by omega)⟩⟩) hP hD hK hS dX12_closesBlock_106 hlocks
  · have kc_6 : i_4.toInt = 2 := by have h9 := c_6; simp only [ge_iff_le, gt_iff_lt, x_lt, x_le, x_eq, ne_eq, Int32.not_lt, Int32.not_le] at h9; simp only [Int32.reduceToInt] at h9; omega
    refine lv_aload_n hx hb dX12_closesBlock_55 rfl (lv_at hl 2 rfl) ?_
    refine lv_sipush (v := 502) hx hb dX12_closesBlock_56 (by decide) ?_
    refine x_callvW (va_runV (As := [.int 502]) (rest := []) ⟨hx, hb, hml, hown, hts⟩ (q_code l D y H.size ad zw (sI (sI (sI σ 2 i_1) 32 i_2) 39 i_3) 502 (show 0 ≤ ((σ.1 29)).toInt from by first | omega | decide) (show ((σ.1 29)).toInt < 1200 from by first | omega | decide)) (cwV 1 hts g_q_closesBlock_2 rfl rfl rfl (by decide +kernel) ⟨Nat.le_of_ble_eq_true rfl, Nat.le_of_ble_eq_true rfl⟩) (x_preV (q := (RX12, TX12, 85)) hK hP hD (ci := 11) (q0 := 0) rfl mwd_o0) rfl rfl hl.1 rfl (lv_room (Nat.le_of_ble_eq_true rfl)) dX12_closesBlock_59 ⟨Nat.le_of_ble_eq_true rfl, Nat.le_of_ble_eq_true rfl⟩) hP hD hS hA (fun u H locs hw hP hD hS => ?_)
    obtain ⟨n_27, f_28⟩ := u
    try dsimp only at hw
    have hP : va_P D vwCl (mwd y ad zw (tI (sI (sI (sI (sI σ 2 i_1) 32 i_2) 39 i_3) 29 n_27) 27 f_28)) H := hP
    have hD : va_D A (mwd y ad zw (tI (sI (sI (sI (sI σ 2 i_1) 32 i_2) 39 i_3) 29 n_27) 27 f_28)) := hD
    replace hw : n_27.toInt = ((σ.1 29)).toInt + 1 ∧ f_28 = upd ((σ.2.2.1 27)) ((σ.1 29)).toInt.toNat (502 : Int32) := hw
    obtain ⟨hcda, hcea⟩ := hw
    refine lv_aload_n hx hb dX12_closesBlock_62 rfl (lv_at hl 2 rfl) ?_
    refine lv_aload_n hx hb dX12_closesBlock_63 rfl (lv_at hl 2 rfl) ?_
    refine va_get (D := D) (ci := 11) (v := .ref (ad 37)) (C := RX12) (T := TX12) (N := 85) hx hb hts inX12 hown hK hP 0 mwd_o0 rfl 37 (by decide) fl88 (fun _ h9 => h9) rfl dX12_closesBlock_64 ?_
    refine lv_aload_n hx hb dX12_closesBlock_67 rfl (lv_at hl 2 rfl) ?_
    refine va_get (D := D) (ci := 11) (v := .int i_3) (C := RX12) (T := TX12) (N := 85) hx hb hts inX12 hown hK hP 0 mwd_o0 rfl 39 (by decide) fl332 (fun _ h9 => h9) rfl dX12_closesBlock_68 ?_
    refine va_iald hx hb hK hP 25 2 mwd_a25 rfl (x_in (by omega) (by omega)) dX12_closesBlock_71 ?_
    refine lv_topi (fun i_29 ei_29 => ?_)
    have ei_29 : i_29 = (σ.2.2.1 37) (Int32.toNatClampNeg i_3) := ei_29
    have qi_29 : i_29.toInt = ((σ.2.2.1 37) ((σ.1 39).toInt.toNat - 1)).toInt := by rw [ei_29, x_cl (n := ((σ.1 39).toInt.toNat - 1)) (by omega)]
    refine x_callvW (va_runV (As := [.int i_29]) (rest := []) ⟨hx, hb, hml, hown, hts⟩ (q_code l D y H.size ad zw (tI (sI (sI (sI (sI σ 2 i_1) 32 i_2) 39 i_3) 29 n_27) 27 f_28) i_29 (show 0 ≤ (n_27).toInt from by first | omega | decide) (show (n_27).toInt < 1200 from by first | omega | decide)) (cwV 1 hts g_q_closesBlock_2 rfl rfl rfl (by decide +kernel) ⟨Nat.le_of_ble_eq_true rfl, Nat.le_of_ble_eq_true rfl⟩) (x_preV (q := (RX12, TX12, 85)) hK hP hD (ci := 11) (q0 := 0) rfl mwd_o0) rfl rfl hl.1 rfl (lv_room (Nat.le_of_ble_eq_true rfl)) dX12_closesBlock_72 ⟨Nat.le_of_ble_eq_true rfl, Nat.le_of_ble_eq_true rfl⟩) hP hD hS hA (fun u H locs hw hP hD hS => ?_)
    obtain ⟨n_30, f_31⟩ := u
    try dsimp only at hw
    have hP : va_P D vwCl (mwd y ad zw (tI (sI (tI (sI (sI (sI (sI σ 2 i_1) 32 i_2) 39 i_3) 29 n_27) 27 f_28) 29 n_30) 27 f_31)) H := hP
    have hD : va_D A (mwd y ad zw (tI (sI (tI (sI (sI (sI (sI σ 2 i_1) 32 i_2) 39 i_3) 29 n_27) 27 f_28) 29 n_30) 27 f_31)) := hD
    replace hw : n_30.toInt = (n_27).toInt + 1 ∧ f_31 = upd (f_28) (n_27).toInt.toNat i_29 := hw
    obtain ⟨hcdb, hceb⟩ := hw
    have hpe3 : PE f_31 n_30.toInt.toNat (σ.2.2.1 24 4).toInt (((σ.1 39).toInt.toNat - 1) + 1) (σ.2.2.1 36) (σ.2.2.1 37) (σ.2.2.1 38) [] true none := by rw [hceb, hcea, show n_27.toInt.toNat = (σ.1 29).toInt.toNat + 1 by omega, show n_30.toInt.toNat = (σ.1 29).toInt.toNat + 2 by omega]; exact PE_back hpe2 (by omega) (by omega)
    refine lv_iload_n hx hb dX12_closesBlock_75 rfl (lv_at hl 1 rfl) ?_
    refine lv_if_ne (tgt := 96) hx hb dX12_closesBlock_76 (by decide) (fun c_32 => ?_) (fun c_32 => ?_)
    · have kc_32 : i_4.toInt ≠ 0 := by have h9 := c_32; simp only [ge_iff_le, gt_iff_lt, x_lt, x_le, x_eq, ne_eq, Int32.not_lt, Int32.not_le] at h9; simp only [Int32.reduceToInt] at h9; omega
      refine lv_aload_n hx hb dX12_closesBlock_96 rfl (lv_at hl 2 rfl) ?_
      refine va_get (D := D) (ci := 11) (v := .ref (ad 27)) (C := RX12) (T := TX12) (N := 85) hx hb hts inX12 hown hK hP 0 mwd_o0 rfl 27 (by decide) fl69 (fun _ h9 => h9) rfl dX12_closesBlock_97 ?_
      refine lv_iload_n hx hb dX12_closesBlock_100 rfl (lv_at hl 0 rfl) ?_
      refine lv_aload_n hx hb dX12_closesBlock_101 rfl (lv_at hl 2 rfl) ?_
      refine va_get (D := D) (ci := 11) (v := .int n_30) (C := RX12) (T := TX12) (N := 85) hx hb hts inX12 hown hK hP 0 mwd_o0 rfl 29 (by decide) fl246 (fun _ h9 => h9) rfl dX12_closesBlock_102 ?_
      refine va_iast hx hb hK hP hD hS 19 2 mwd_a19 rfl (x_in (by omega) (by omega)) dX12_closesBlock_105 (fun H locs hP hD hS => ?_)
      obtain ⟨f_33, ef_33⟩ : ∃ z9 : Nat → Int32, z9 = (upd f_31 (Int32.toNatClampNeg i_5) n_30) := ⟨_, rfl⟩
      rw [cj_ulo (by show Int.toNat _ < _; omega)] at hP hD
      have hP : va_P D vwCl (mwd y ad zw (tI (tI (sI (tI (sI (sI (sI (sI σ 2 i_1) 32 i_2) 39 i_3) 29 n_27) 27 f_28) 29 n_30) 27 f_31) 27 f_33)) H := by rw [ef_33]; exact x_trP hP mwd_s19
      have hD : va_D A (mwd y ad zw (tI (tI (sI (tI (sI (sI (sI (sI σ 2 i_1) 32 i_2) 39 i_3) 29 n_27) 27 f_28) 29 n_30) 27 f_31) 27 f_33)) := by rw [ef_33]; exact x_trD hD mwd_s19
      rw [x_cl (n := i9 + 1) (by omega)] at ef_33
      have hP : va_P D vwCl (mwd y ad zw (sI (tI (tI (tI (tI (sI (sI (sI (sI (sI (sI σ 4 (σ.1 4)) 2 i_1) 5 (σ.1 5)) 6 (σ.1 6)) 32 i_2) 29 n_30) 27 f_33) 36 (σ.2.2.1 36)) 37 (σ.2.2.1 37)) 38 (σ.2.2.1 38)) 39 i_3)) H := hP
      have hD : va_D A (mwd y ad zw (sI (tI (tI (tI (tI (sI (sI (sI (sI (sI (sI σ 4 (σ.1 4)) 2 i_1) 5 (σ.1 5)) 6 (σ.1 6)) 32 i_2) 29 n_30) 27 f_33) 36 (σ.2.2.1 36)) 37 (σ.2.2.1 37)) 38 (σ.2.2.1 38)) 39 i_3)) := hD
      exact x_vretW (u := ((σ.1 4), i_1, (σ.1 5), (σ.1 6), i_2, n_30, f_33, (σ.2.2.1 36), (σ.2.2.1 37), (σ.2.2.1 38), i_3)) hx hb hr hQ (by (try dsimp only); exact ⟨by omega, by omega, fun h9 => ⟨by omega, by omega, by omega, by omega, by omega, by omega, by rw [ef_33, show i_3.toInt.toNat = ((σ.1 39).toInt.toNat - 1) by omega]; exact PE_close hpe3 hi9 (by omega)⟩⟩) hP hD hK hS dX12_closesBlock_106 hlocks
    · have kc_32 : i_4.toInt = 0 := by have h9 := c_32; simp only [ge_iff_le, gt_iff_lt, x_lt, x_le, x_eq, ne_eq, Int32.not_lt, Int32.not_le] at h9; simp only [Int32.reduceToInt] at h9; omega
      exfalso
      omega

def v_q_testBlock : List Cond := .code yX12_testBlock cX12_testBlock 3 none :: ([.fieldLink RX12 246 "SlopeRunnerModel" "coded" "I", .fieldLink RX12 263 "SlopeRunnerModel" "waits" "I", .fieldLink RX12 270 "SlopeRunnerModel" "base" "I", .fieldLink RX12 191 "SlopeRunnerModel" "bad" "I"] ++ ((wsV RX12 338 RX12 yX12_test v_q_test) ++ ((wsV RX12 335 RX12 yX12_block v_q_block) ++ wsX120)))
theorem g_q_testBlock_0 : GoodIn v_q_testBlock (wsV RX12 338 RX12 yX12_test v_q_test) := goodIn_sub (fun w h => List.mem_cons_of_mem _ (List.mem_append_right _ (List.mem_append_left _ h))) (by decide +kernel)
theorem g_q_testBlock_1 : GoodIn v_q_testBlock (wsV RX12 335 RX12 yX12_block v_q_block) := goodIn_sub (fun w h => List.mem_cons_of_mem _ (List.mem_append_right _ (List.mem_append_right _ (List.mem_append_left _ h)))) (by decide +kernel)
set_option maxHeartbeats 4000000 in
set_option maxRecDepth 100000 in
theorem q_testBlock (l : Launch) (D : va_G) (y : Nat → ClassId) (sz : Nat) (ad : Nat → Nat) (zw : Nat → Nat → Int32) (σ : OS) (wh : Int32) (hwh : wh.toInt = 0 ∨ wh.toInt = 2) (ha0 : 0 ≤ (σ.1 2).toInt) (ha1 : (σ.1 2).toInt ≤ (σ.1 3).toInt) (ha2 : (σ.1 3).toInt ≤ 700) (hb0 : (σ.1 5).toInt = 0) (hn0 : 0 ≤ (σ.1 33).toInt) (hn1 : (σ.1 33).toInt ≤ 24) (ho0 : 0 ≤ (σ.1 32).toInt) (ho1 : (σ.1 32).toInt ≤ 8) (hc0 : 0 ≤ (σ.1 29).toInt) (hha0 : 0 ≤ (σ.2.2.1 24 4).toInt) (hhb0 : (σ.2.2.1 24 4).toInt ≤ (σ.1 2).toInt + 20) (hbo : (σ.1 39).toInt = (σ.1 32).toInt) (hbl0 : 0 ≤ (σ.1 39).toInt) (hcb : (σ.1 29).toInt + (σ.1 39).toInt + 2 ≤ (σ.1 2).toInt) (hpe : PE (σ.2.2.1 27) (σ.1 29).toInt.toNat (σ.2.2.1 24 4).toInt (σ.1 39).toInt.toNat (σ.2.2.1 36) (σ.2.2.1 37) (σ.2.2.1 38) [] true none) (hB35 : bI (σ.2.2.1 35) 0 23) (hB26 : bI (σ.2.2.1 26) 0 9999) : Met l yX12_testBlock v_q_testBlock ({ frames := 10, cells := 0, slots := 0, locals := 219 } : Room) (va_Pc [.ref (ad 1), .int wh] (xPre D (xT y) (mwd y ad zw σ) sz)) (va_Qv (fun (u : Int32 × Int32 × Int32 × Int32 × Int32 × Int32 × (Nat → Int32) × Int32 × (Nat → Int32) × Int32 × (Nat → Int32) × (Nat → Int32) × Int32 × (Nat → Int32) × (Nat → Int32) × (Nat → Int32) × Int32) => ((σ.1 2).toInt ≤ u.1.toInt ∧ u.1.toInt ≤ (σ.1 3).toInt ∧ (∀ k : Nat, k ≠ 4 → u.2.2.2.2.2.2.2.2.2.2.1 k = σ.2.2.1 24 k) ∧ (σ.2.2.1 24 4).toInt ≤ (u.2.2.2.2.2.2.2.2.2.2.1 4).toInt ∧ (u.2.2.1.toInt = 0 → (σ.1 2).toInt + 1 ≤ u.1.toInt ∧ (u.2.2.2.2.2.2.2.2.2.2.1 4).toInt - u.1.toInt ≤ (σ.2.2.1 24 4).toInt - (σ.1 2).toInt ∧ u.2.2.2.2.2.2.2.1.toInt = u.2.2.2.2.2.2.2.2.2.2.2.2.2.2.2.2.toInt ∧ 0 ≤ u.2.2.2.2.2.2.2.2.2.2.2.2.2.2.2.2.toInt ∧ u.2.2.2.2.2.2.2.2.2.2.2.2.2.2.2.2.toInt ≤ 8 ∧ 0 ≤ u.2.2.2.2.2.1.toInt ∧ u.2.2.2.2.2.1.toInt + u.2.2.2.2.2.2.2.2.2.2.2.2.2.2.2.2.toInt ≤ u.1.toInt ∧ PE u.2.2.2.2.2.2.1 u.2.2.2.2.2.1.toInt.toNat (u.2.2.2.2.2.2.2.2.2.2.1 4).toInt u.2.2.2.2.2.2.2.2.2.2.2.2.2.2.2.2.toInt.toNat u.2.2.2.2.2.2.2.2.2.2.2.2.2.1 u.2.2.2.2.2.2.2.2.2.2.2.2.2.2.1 u.2.2.2.2.2.2.2.2.2.2.2.2.2.2.2.1 [] true none)) ∧ bI u.2.2.2.2.2.2.2.2.2.2.2.1 0 9999) (fun (u : Int32 × Int32 × Int32 × Int32 × Int32 × Int32 × (Nat → Int32) × Int32 × (Nat → Int32) × Int32 × (Nat → Int32) × (Nat → Int32) × Int32 × (Nat → Int32) × (Nat → Int32) × (Nat → Int32) × Int32) => xB D (xT y) (va_A (mwd y ad zw σ) sz) (mwd y ad zw (sI (tI (tI (tI (sI (tI (tI (sI (tI (sI (tI (sI (sI (sI (sI (sI (sI σ 2 u.1) 4 u.2.1) 5 u.2.2.1) 6 u.2.2.2.1) 23 u.2.2.2.2.1) 29 u.2.2.2.2.2.1) 27 u.2.2.2.2.2.2.1) 32 u.2.2.2.2.2.2.2.1) 30 u.2.2.2.2.2.2.2.2.1) 31 u.2.2.2.2.2.2.2.2.2.1) 24 u.2.2.2.2.2.2.2.2.2.2.1) 26 u.2.2.2.2.2.2.2.2.2.2.2.1) 40 u.2.2.2.2.2.2.2.2.2.2.2.2.1) 36 u.2.2.2.2.2.2.2.2.2.2.2.2.2.1) 37 u.2.2.2.2.2.2.2.2.2.2.2.2.2.2.1) 38 u.2.2.2.2.2.2.2.2.2.2.2.2.2.2.2.1) 39 u.2.2.2.2.2.2.2.2.2.2.2.2.2.2.2.2))) (va_A (mwd y ad zw σ) sz)) 0 0 (va_A (mwd y ad zw σ) sz) := by
  refine x_metv (cc := cX12_testBlock) (maxL := 3) (by decide) rfl (Nat.le_of_ble_eq_true rfl) ?_
  intro p e s m below meth c A H locs Q hx hb hml hown hts hr hlocks hmn hA hP hK hD hS ls hl hQ
  have hl : lv_has ls 3 [(0, .ref (ad 1)), (1, .int wh)] := hl
  have fl246 := hts (.fieldLink RX12 246 "SlopeRunnerModel" "coded" "I") (List.mem_of_getElem? (i := 1) rfl)
  have inX12 : ∀ w ∈ wsX120, w ∈ v_q_testBlock := (fun w h => List.mem_cons_of_mem _ (List.mem_append_right _ (List.mem_append_right _ (List.mem_append_right _ h))))
  have fl263 := hts (.fieldLink RX12 263 "SlopeRunnerModel" "waits" "I") (List.mem_of_getElem? (i := 2) rfl)
  have fl270 := hts (.fieldLink RX12 270 "SlopeRunnerModel" "base" "I") (List.mem_of_getElem? (i := 3) rfl)
  have fl191 := hts (.fieldLink RX12 191 "SlopeRunnerModel" "bad" "I") (List.mem_of_getElem? (i := 4) rfl)
  have kk_0 : (0 : Int32).toInt = 0 := rfl
  have hpe0 : ∃ (s9 : Bool) (fo9 : Option Nat), PE (σ.2.2.1 27) (σ.1 29).toInt.toNat (σ.2.2.1 24 4).toInt (σ.1 39).toInt.toNat (σ.2.2.1 36) (σ.2.2.1 37) (σ.2.2.1 38) [] s9 fo9 ∧ (wh.toInt = 0 ∧ s9 = true ∨ (wh.toInt = 2 ∧ fo9 = some (σ.1 29).toInt.toNat)) := by
    rcases hwh with h9 | h9
    · exact ⟨true, none, hpe, Or.inl ⟨h9, rfl⟩⟩
    · exact ⟨false, _, PE_lower hpe, Or.inr ⟨h9, rfl⟩⟩
  obtain ⟨s9, fo9, hpe1, hwf⟩ := hpe0
  refine lv_aload_n hx hb dX12_testBlock_0 rfl (lv_at hl 0 rfl) ?_
  refine va_get (D := D) (ci := 11) (v := .int (σ.1 29)) (C := RX12) (T := TX12) (N := 85) hx hb hts inX12 hown hK hP 0 mwd_o0 rfl 29 (by decide) fl246 (fun _ h9 => h9) rfl dX12_testBlock_1 ?_
  refine lv_istore_n (lv' := [(2, .int (σ.1 29)), (0, .ref (ad 1)), (1, .int wh)]) hx hb dX12_testBlock_4 rfl hl (by decide) rfl (fun ls hl => ?_)
  refine lv_aload_n hx hb dX12_testBlock_5 rfl (lv_at hl 1 rfl) ?_
  refine lv_iconst (v := 0) hx hb dX12_testBlock_6 (by decide) ?_
  refine va_put (D := D) (ci := 11) (v := .int 0) (ty := .int) (C := RX12) (T := TX12) (N := 85) hx hb hts inX12 tyX12 tyX12_ok nmX12 hown hK hP hD hS 0 mwd_o0 rfl 31 (by decide) fl263 (fun _ h9 => h9) rfl (by decide +kernel) rfl rfl (Nat.le_of_ble_eq_true rfl) dX12_testBlock_7 (fun H locs hP hD hS => ?_)
  have hP : va_P D vwCl (mwd y ad zw (sI σ 31 0)) H := x_trP hP mwd_p0_31
  have hD : va_D A (mwd y ad zw (sI σ 31 0)) := x_trD hD mwd_p0_31
  refine lv_aload_n hx hb dX12_testBlock_10 rfl (lv_at hl 1 rfl) ?_
  refine lv_iconst (v := 0) hx hb dX12_testBlock_11 (by decide) ?_
  refine va_put (D := D) (ci := 11) (v := .int 0) (ty := .int) (C := RX12) (T := TX12) (N := 85) hx hb hts inX12 tyX12 tyX12_ok nmX12 hown hK hP hD hS 0 mwd_o0 rfl 40 (by decide) fl270 (fun _ h9 => h9) rfl (by decide +kernel) rfl rfl (Nat.le_of_ble_eq_true rfl) dX12_testBlock_12 (fun H locs hP hD hS => ?_)
  have hP : va_P D vwCl (mwd y ad zw (sI (sI σ 31 0) 40 0)) H := x_trP hP mwd_p0_40
  have hD : va_D A (mwd y ad zw (sI (sI σ 31 0) 40 0)) := x_trD hD mwd_p0_40
  refine lv_aload_n hx hb dX12_testBlock_15 rfl (lv_at hl 1 rfl) ?_
  refine x_callvW (va_runV (As := []) (rest := []) ⟨hx, hb, hml, hown, hts⟩ (q_test l D y H.size ad zw (sI (sI σ 31 0) 40 0) (show 0 ≤ ((σ.1 2)).toInt from by first | omega | decide) (show ((σ.1 2)).toInt ≤ ((σ.1 3)).toInt from by first | omega | decide) (show ((σ.1 3)).toInt ≤ 700 from by first | omega | decide) (show ((σ.1 5)).toInt = 0 from by first | omega | decide) (show 0 ≤ ((σ.1 33)).toInt from by first | omega | decide) (show ((σ.1 33)).toInt ≤ 24 from by first | omega | decide) (show 0 ≤ ((σ.1 32)).toInt from by first | omega | decide) (show ((σ.1 32)).toInt ≤ 8 from by first | omega | decide) (show 0 ≤ ((0 : Int32)).toInt from by first | omega | decide) (show 0 ≤ ((σ.1 29)).toInt from by first | omega | decide) (show ((σ.1 29)).toInt + ((0 : Int32)).toInt ≤ ((σ.1 2)).toInt + 20 from by first | omega | decide) (show 0 ≤ ((σ.2.2.1 24) 4).toInt from by first | omega | decide) (show ((σ.2.2.1 24) 4).toInt ≤ ((σ.1 2)).toInt + 20 from by first | omega | decide) (show ((0 : Int32)).toInt = 0 from by first | omega | decide) hB35 hB26) (cwV 0 hts g_q_testBlock_0 rfl rfl rfl (by decide +kernel) ⟨Nat.le_of_ble_eq_true rfl, Nat.le_of_ble_eq_true rfl⟩) (x_preV (q := (RX12, TX12, 85)) hK hP hD (ci := 11) (q0 := 0) rfl mwd_o0) rfl rfl hl.1 rfl (lv_room (Nat.le_of_ble_eq_true rfl)) dX12_testBlock_16 ⟨Nat.le_of_ble_eq_true rfl, Nat.le_of_ble_eq_true rfl⟩) hP hD hS hA (fun u H locs hw hP hD hS => ?_)
  obtain ⟨n_1, n_2, n_3, n_4, n_5, n_6, f_7, n_8, f_9, n_10, f_11, f_12, n_13⟩ := u
  try dsimp only at hw
  have hP : va_P D vwCl (mwd y ad zw (sI (tI (tI (sI (tI (sI (tI (sI (sI (sI (sI (sI (sI (sI (sI σ 31 0) 40 0) 2 n_1) 4 n_2) 5 n_3) 6 n_4) 23 n_5) 29 n_6) 27 f_7) 32 n_8) 30 f_9) 31 n_10) 24 f_11) 26 f_12) 40 n_13)) H := hP
  have hD : va_D A (mwd y ad zw (sI (tI (tI (sI (tI (sI (tI (sI (sI (sI (sI (sI (sI (sI (sI σ 31 0) 40 0) 2 n_1) 4 n_2) 5 n_3) 6 n_4) 23 n_5) 29 n_6) 27 f_7) 32 n_8) 30 f_9) 31 n_10) 24 f_11) 26 f_12) 40 n_13)) := hD
  replace hw : (((σ.1 2)).toInt ≤ n_1.toInt ∧ n_1.toInt ≤ ((σ.1 3)).toInt ∧ 0 ≤ n_8.toInt ∧ n_8.toInt ≤ 8 ∧ 0 ≤ n_10.toInt ∧ ((σ.1 29)).toInt ≤ n_6.toInt ∧ n_6.toInt + n_10.toInt - n_1.toInt ≤ ((σ.1 29)).toInt + ((0 : Int32)).toInt - ((σ.1 2)).toInt + 2 ∧ (∀ k : Nat, k ≠ 4 → f_11 k = (σ.2.2.1 24) k) ∧ ((σ.2.2.1 24) 4).toInt ≤ (f_11 4).toInt ∧ (f_11 4).toInt - n_1.toInt ≤ ((σ.2.2.1 24) 4).toInt - ((σ.1 2)).toInt + 1 ∧ n_13 = ((0 : Int32)) ∧ (n_3.toInt = 0 → ((σ.1 2)).toInt + 1 ≤ n_1.toInt ∧ n_6.toInt + n_10.toInt - n_1.toInt ≤ ((σ.1 29)).toInt + ((0 : Int32)).toInt - ((σ.1 2)).toInt ∧ (f_11 4).toInt - n_1.toInt ≤ ((σ.2.2.1 24) 4).toInt - ((σ.1 2)).toInt ∧ n_10.toInt = 0 ∧ n_8.toInt = ((σ.1 32)).toInt ∧ PC ((σ.2.2.1 27)) f_7 ((σ.2.2.1 30)) f_9 (((σ.1 29)).toInt.toNat) (n_6.toInt.toNat) 0 (1000 + (f_11 4).toInt) [false])) ∧ bI f_12 0 9999 := hw
  obtain ⟨hw, hg_14⟩ := hw
  obtain ⟨hp1, hp2, hp3, hp4, hp5, hp6, hp7, hp8, hp9, hp10, hp11, hpi⟩ := hw
  rcases Classical.em (n_3.toInt = 0) with hbz | hbz
  · obtain ⟨hg1, hg2, hg3, hg4, hg5, hg6⟩ := hpi hbz
    clear hpi
    have hlt := PC_lt hg6
    have hpe5 := PE_PC hpe1 hg6 (by omega)
    rw [show (s9 || [false].contains false) = true from (by cases s9 <;> rfl)] at hpe5
    refine lv_aload_n hx hb dX12_testBlock_19 rfl (lv_at hl 1 rfl) ?_
    refine va_get (D := D) (ci := 11) (v := .int n_3) (C := RX12) (T := TX12) (N := 85) hx hb hts inX12 hown hK hP 0 mwd_o0 rfl 5 (by decide) fl191 (fun _ h9 => h9) rfl dX12_testBlock_20 ?_
    refine lv_if_ne (tgt := 32) hx hb dX12_testBlock_23 (by decide) (fun c_15 => ?_) (fun c_15 => ?_)
    · have kc_15 : n_3.toInt ≠ 0 := by have h9 := c_15; simp only [ge_iff_le, gt_iff_lt, x_lt, x_le, x_eq, ne_eq, Int32.not_lt, Int32.not_le] at h9; simp only [Int32.reduceToInt] at h9; omega
      exfalso
      omega
    · have kc_15 : n_3.toInt = 0 := by have h9 := c_15; simp only [ge_iff_le, gt_iff_lt, x_lt, x_le, x_eq, ne_eq, Int32.not_lt, Int32.not_le] at h9; simp only [Int32.reduceToInt] at h9; omega
      refine lv_aload_n hx hb dX12_testBlock_26 rfl (lv_at hl 1 rfl) ?_
      refine lv_iload_n hx hb dX12_testBlock_27 rfl (lv_at hl 2 rfl) ?_
      refine lv_iload_n hx hb dX12_testBlock_28 rfl (lv_at hl 0 rfl) ?_
      refine x_callvW (va_runV (As := [.int wh, .int (σ.1 29)]) (rest := []) ⟨hx, hb, hml, hown, hts⟩ (q_block l D y H.size ad zw (sI (tI (tI (sI (tI (sI (tI (sI (sI (sI (sI (sI (sI (sI (sI σ 31 0) 40 0) 2 n_1) 4 n_2) 5 n_3) 6 n_4) 23 n_5) 29 n_6) 27 f_7) 32 n_8) 30 f_9) 31 n_10) 24 f_11) 26 f_12) 40 n_13) wh (σ.1 29) (by first | omega | decide) (show 0 ≤ (n_1).toInt from by first | omega | decide) (show (n_1).toInt ≤ ((σ.1 3)).toInt from by first | omega | decide) (show ((σ.1 3)).toInt ≤ 700 from by first | omega | decide) (show (n_3).toInt = 0 from by first | omega | decide) (show ((σ.1 39)).toInt = (n_8).toInt from by first | omega | decide) (show 0 ≤ ((σ.1 39)).toInt from by first | omega | decide) (show (n_8).toInt ≤ 8 from by first | omega | decide) (show 0 ≤ (n_6).toInt from by first | omega | decide) (show (n_6).toInt < 1190 from by first | omega | decide)) (cwV 2 hts g_q_testBlock_1 rfl rfl rfl (by decide +kernel) ⟨Nat.le_of_ble_eq_true rfl, Nat.le_of_ble_eq_true rfl⟩) (x_preV (q := (RX12, TX12, 85)) hK hP hD (ci := 11) (q0 := 0) rfl mwd_o0) rfl rfl hl.1 rfl (lv_room (Nat.le_of_ble_eq_true rfl)) dX12_testBlock_29 ⟨Nat.le_of_ble_eq_true rfl, Nat.le_of_ble_eq_true rfl⟩) hP hD hS hA (fun u H locs hw hP hD hS => ?_)
      obtain ⟨n_16, n_17, n_18, n_19, n_20, f_21, f_22, f_23, f_24, n_25⟩ := u
      try dsimp only at hw
      have hP : va_P D vwCl (mwd y ad zw (sI (tI (tI (tI (tI (sI (sI (sI (sI (sI (sI (tI (tI (sI (tI (sI (tI (sI (sI (sI (sI (sI (sI (sI (sI σ 31 0) 40 0) 2 n_1) 4 n_2) 5 n_3) 6 n_4) 23 n_5) 29 n_6) 27 f_7) 32 n_8) 30 f_9) 31 n_10) 24 f_11) 26 f_12) 40 n_13) 2 n_16) 5 n_17) 6 n_18) 32 n_19) 29 n_20) 27 f_21) 36 f_22) 37 f_23) 38 f_24) 39 n_25)) H := hP
      have hD : va_D A (mwd y ad zw (sI (tI (tI (tI (tI (sI (sI (sI (sI (sI (sI (tI (tI (sI (tI (sI (tI (sI (sI (sI (sI (sI (sI (sI (sI σ 31 0) 40 0) 2 n_1) 4 n_2) 5 n_3) 6 n_4) 23 n_5) 29 n_6) 27 f_7) 32 n_8) 30 f_9) 31 n_10) 24 f_11) 26 f_12) 40 n_13) 2 n_16) 5 n_17) 6 n_18) 32 n_19) 29 n_20) 27 f_21) 36 f_22) 37 f_23) 38 f_24) 39 n_25)) := hD
      replace hw : (n_1).toInt ≤ n_16.toInt ∧ n_16.toInt ≤ ((σ.1 3)).toInt ∧ ((n_17.toInt ≠ 0 ∧ n_20 = (n_6)) ∨ (n_17.toInt = 0 ∧ (n_1).toInt + 1 ≤ n_16.toInt ∧ n_19.toInt = (n_8).toInt + 1 ∧ n_19.toInt ≤ 8 ∧ n_25.toInt = ((σ.1 39)).toInt + 1 ∧ n_20.toInt = (n_6).toInt + 2 ∧ f_21 = upd (upd (f_7) (n_6).toInt.toNat 501) ((n_6).toInt.toNat + 1) 0 ∧ f_22 = upd ((σ.2.2.1 36)) ((σ.1 39)).toInt.toNat wh ∧ f_23 = upd ((σ.2.2.1 37)) ((σ.1 39)).toInt.toNat (σ.1 29) ∧ ∃ z9 : Int32, f_24 = upd ((σ.2.2.1 38)) ((σ.1 39)).toInt.toNat z9 ∧ z9.toInt = (n_6).toInt + 1)) := hw
      rcases hw with ⟨hw1, hw2, ⟨hw3, hw4⟩ | ⟨hw3, hw4, hw5, hw6, hw7, hw8, hw9, hw10, hw11, z9, hw12, hw13⟩⟩
      · skip
        have hP : va_P D vwCl (mwd y ad zw (sI (tI (tI (tI (sI (tI (tI (sI (tI (sI (tI (sI (sI (sI (sI (sI (sI σ 2 n_16) 4 n_2) 5 n_17) 6 n_18) 23 n_5) 29 n_20) 27 f_21) 32 n_19) 30 f_9) 31 n_10) 24 f_11) 26 f_12) 40 n_13) 36 f_22) 37 f_23) 38 f_24) 39 n_25)) H := hP
        have hD : va_D A (mwd y ad zw (sI (tI (tI (tI (sI (tI (tI (sI (tI (sI (tI (sI (sI (sI (sI (sI (sI σ 2 n_16) 4 n_2) 5 n_17) 6 n_18) 23 n_5) 29 n_20) 27 f_21) 32 n_19) 30 f_9) 31 n_10) 24 f_11) 26 f_12) 40 n_13) 36 f_22) 37 f_23) 38 f_24) 39 n_25)) := hD
        exact x_vretW (u := (n_16, n_2, n_17, n_18, n_5, n_20, f_21, n_19, f_9, n_10, f_11, f_12, n_13, f_22, f_23, f_24, n_25)) hx hb hr hQ (by (try dsimp only); exact ⟨⟨by omega, by omega, hp8, by omega, fun h9 => absurd h9 (by omega)⟩, hg_14⟩) hP hD hK hS dX12_testBlock_32 hlocks
      · skip
        have hP : va_P D vwCl (mwd y ad zw (sI (tI (tI (tI (sI (tI (tI (sI (tI (sI (tI (sI (sI (sI (sI (sI (sI σ 2 n_16) 4 n_2) 5 n_17) 6 n_18) 23 n_5) 29 n_20) 27 f_21) 32 n_19) 30 f_9) 31 n_10) 24 f_11) 26 f_12) 40 n_13) 36 f_22) 37 f_23) 38 f_24) 39 n_25)) H := hP
        have hD : va_D A (mwd y ad zw (sI (tI (tI (tI (sI (tI (tI (sI (tI (sI (tI (sI (sI (sI (sI (sI (sI σ 2 n_16) 4 n_2) 5 n_17) 6 n_18) 23 n_5) 29 n_20) 27 f_21) 32 n_19) 30 f_9) 31 n_10) 24 f_11) 26 f_12) 40 n_13) 36 f_22) 37 f_23) 38 f_24) 39 n_25)) := hD
        exact x_vretW (u := (n_16, n_2, n_17, n_18, n_5, n_20, f_21, n_19, f_9, n_10, f_11, f_12, n_13, f_22, f_23, f_24, n_25)) hx hb hr hQ (by (try dsimp only); exact ⟨⟨by omega, by omega, hp8, by omega, fun h9 => ⟨by omega, by omega, by omega, by omega, by omega, by omega, by omega, by rw [hw9, hw10, hw11, hw12, show n_25.toInt.toNat = (σ.1 39).toInt.toNat + 1 by omega, show n_20.toInt.toNat = n_6.toInt.toNat + 2 by omega]; exact PE_block hpe5 (by rcases hwf with ⟨h8, h7⟩ | ⟨h8, h7⟩ <;> first | exact Or.inl h8 | exact Or.inr ⟨h8, _, h7, by omega, hlt⟩) (by omega)⟩⟩, hg_14⟩) hP hD hK hS dX12_testBlock_32 hlocks
  · clear hpi
    refine lv_aload_n hx hb dX12_testBlock_19 rfl (lv_at hl 1 rfl) ?_
    refine va_get (D := D) (ci := 11) (v := .int n_3) (C := RX12) (T := TX12) (N := 85) hx hb hts inX12 hown hK hP 0 mwd_o0 rfl 5 (by decide) fl191 (fun _ h9 => h9) rfl dX12_testBlock_20 ?_
    refine lv_if_ne (tgt := 32) hx hb dX12_testBlock_23 (by decide) (fun c_26 => ?_) (fun c_26 => ?_)
    · have kc_26 : n_3.toInt ≠ 0 := by have h9 := c_26; simp only [ge_iff_le, gt_iff_lt, x_lt, x_le, x_eq, ne_eq, Int32.not_lt, Int32.not_le] at h9; simp only [Int32.reduceToInt] at h9; omega
      have hP : va_P D vwCl (mwd y ad zw (sI (tI (tI (tI (sI (tI (tI (sI (tI (sI (tI (sI (sI (sI (sI (sI (sI σ 2 n_1) 4 n_2) 5 n_3) 6 n_4) 23 n_5) 29 n_6) 27 f_7) 32 n_8) 30 f_9) 31 n_10) 24 f_11) 26 f_12) 40 n_13) 36 (σ.2.2.1 36)) 37 (σ.2.2.1 37)) 38 (σ.2.2.1 38)) 39 (σ.1 39))) H := hP
      have hD : va_D A (mwd y ad zw (sI (tI (tI (tI (sI (tI (tI (sI (tI (sI (tI (sI (sI (sI (sI (sI (sI σ 2 n_1) 4 n_2) 5 n_3) 6 n_4) 23 n_5) 29 n_6) 27 f_7) 32 n_8) 30 f_9) 31 n_10) 24 f_11) 26 f_12) 40 n_13) 36 (σ.2.2.1 36)) 37 (σ.2.2.1 37)) 38 (σ.2.2.1 38)) 39 (σ.1 39))) := hD
      exact x_vretW (u := (n_1, n_2, n_3, n_4, n_5, n_6, f_7, n_8, f_9, n_10, f_11, f_12, n_13, (σ.2.2.1 36), (σ.2.2.1 37), (σ.2.2.1 38), (σ.1 39))) hx hb hr hQ (by (try dsimp only); exact ⟨⟨by omega, by omega, hp8, by omega, fun h9 => absurd h9 (by omega)⟩, hg_14⟩) hP hD hK hS dX12_testBlock_32 hlocks
    · have kc_26 : n_3.toInt = 0 := by have h9 := c_26; simp only [ge_iff_le, gt_iff_lt, x_lt, x_le, x_eq, ne_eq, Int32.not_lt, Int32.not_le] at h9; simp only [Int32.reduceToInt] at h9; omega
      exfalso
      omega

