theorem x_bju {f : Nat → Int64} {k : Nat} {x : Int64} {lo hi : Int} (h : bJ f lo hi) (h1 : lo ≤ x.toInt ∧ x.toInt ≤ hi) : bJ (vp_updL f k x) lo hi := fun i => by
  unfold vp_updL
  split
  · exact h1
  · exact h i
/-- the reference's numbers when it is made -/
abbrev xI0 : Nat → Int32 := fun k => if k = 8 then -1 else 0
abbrev xJ0 : Nat → Int64 := fun _ => 0
theorem x_i0 {k : Nat} (h : k ≠ 8) : Value.int 0 = Value.int (xI0 k) := by simp only [xI0, if_neg h]
/-- the cells of a new reference -/
def mW (y : Nat → ClassId) (h0 : Nat) (u : (Nat → Nat) × (Nat → Nat → Int32) × (Nat → Int64)) : va_W := [(h0, .inr (11, mF u.1 xI0 xJ0)), ((u.1 84), .inl (y 2, 1111, .inl (fun _ => 0))), ((u.1 83), .inl (y 2, 1111, .inl (fun _ => 0))), ((u.1 81), .inl (y 2, 8, .inl (fun _ => 0))), ((u.1 80), .inl (y 2, 8, .inl (fun _ => 0))), ((u.1 77), .inl (y 3, 1760, .inr (.inl (fun _ => 0)))), ((u.1 76), .inl (y 3, 5280, .inr (.inl (fun _ => 0)))), ((u.1 75), .inl (y 3, 5280, .inr (.inl (fun _ => 0)))), ((u.1 74), .inl (y 4, 1760, .inl (fun _ => 0))), ((u.1 72), .inl (y 2, 800, .inl (fun _ => 0))), ((u.1 71), .inl (y 2, 84, .inl (fun _ => 0))), ((u.1 67), .inl (y 2, 2, .inl (fun _ => 0))), ((u.1 66), .inl (y 2, 2, .inl (fun _ => 0))), ((u.1 65), .inl (y 2, 24, .inl (fun _ => 0))), ((u.1 64), .inl (y 2, 2, .inl (fun _ => 0))), ((u.1 63), .inl (y 2, 2, .inl (fun _ => 0))), ((u.1 62), .inl (y 2, 2, .inl (fun _ => 0))), ((u.1 61), .inl (y 2, 3520, .inl (fun _ => 0))), ((u.1 60), .inl (y 2, 3520, .inl (fun _ => 0))), ((u.1 59), .inl (y 2, 3520, .inl (fun _ => 0))), ((u.1 58), .inl (y 3, 3520, .inr (.inl (fun _ => 0)))), ((u.1 57), .inl (y 3, 3520, .inr (.inl (fun _ => 0)))), ((u.1 56), .inl (y 3, 16, .inr (.inl (fun _ => 0)))), ((u.1 55), .inl (y 3, 16, .inr (.inl (fun _ => 0)))), ((u.1 53), .inl (y 3, 41, .inr (.inl (fun _ => 0)))), ((u.1 52), .inl (y 3, 41, .inr (.inl (fun _ => 0)))), ((u.1 51), .inl (y 3, 41, .inr (.inl (fun _ => 0)))), ((u.1 50), .inl (y 3, 41, .inr (.inl (fun _ => 0)))), ((u.1 49), .inl (y 2, 41, .inl (fun _ => 0))), ((u.1 46), .inl (y 3, 8, .inr (.inl u.2.2))), ((u.1 45), .inl (y 3, 8, .inr (.inl (fun _ => 0)))), ((u.1 41), .inl (y 2, 700, .inl (fun _ => 0))), ((u.1 38), .inl (y 2, 8, .inl (fun _ => 0))), ((u.1 37), .inl (y 2, 8, .inl (fun _ => 0))), ((u.1 36), .inl (y 2, 8, .inl (fun _ => 0))), ((u.1 35), .inl (y 2, 24, .inl (fun _ => 0))), ((u.1 34), .inl (y 3, 24, .inr (.inl (fun _ => 0)))), ((u.1 30), .inl (y 2, 800, .inl (fun _ => 0))), ((u.1 28), .inl (y 2, 2, .inl (fun _ => 0))), ((u.1 27), .inl (y 2, 2400, .inl (fun _ => 0))), ((u.1 26), .inl (y 2, 1400, .inl (fun _ => 0))), ((u.1 25), .inl (y 2, 8, .inl (fun _ => 0))), ((u.1 24), .inl (y 2, 10, .inl (fun _ => 0))), ((u.1 22), .inl (y 1, 3, .inl (u.2.1 22))), ((u.1 21), .inl (y 1, 3, .inl (u.2.1 21))), ((u.1 20), .inl (y 1, 3, .inl (u.2.1 20))), ((u.1 19), .inl (y 1, 3, .inl (u.2.1 19))), ((u.1 18), .inl (y 1, 2, .inl (u.2.1 18))), ((u.1 17), .inl (y 1, 3, .inl (u.2.1 17))), ((u.1 16), .inl (y 1, 5, .inl (u.2.1 16))), ((u.1 15), .inl (y 1, 4, .inl (u.2.1 15))), ((u.1 14), .inl (y 1, 2, .inl (u.2.1 14))), ((u.1 13), .inl (y 1, 4, .inl (u.2.1 13))), ((u.1 12), .inl (y 1, 3, .inl (u.2.1 12))), ((u.1 11), .inl (y 1, 3, .inl (u.2.1 11))), ((u.1 10), .inl (y 1, 3, .inl (u.2.1 10))), ((u.1 9), .inl (y 1, 5, .inl (u.2.1 9))), ((u.1 0), .inl (y 2, 700, .inl (fun _ => 0)))]
set_option maxHeartbeats 4000000 in
set_option maxRecDepth 100000 in
theorem m_init_w (D : va_G) (A : Nat → Prop) (H : Heap) (y : Nat → ClassId) (h0 q_1 q_2 q_8 q_12 q_16 q_20 q_25 q_28 q_33 q_39 q_43 q_46 q_50 q_54 q_58 q_62 q_63 q_64 q_65 q_66 q_67 q_68 q_69 q_70 q_71 q_72 q_73 q_74 q_75 q_76 q_77 q_78 q_79 q_80 q_81 q_82 q_83 q_84 q_85 q_86 q_87 q_88 q_89 q_90 q_91 q_92 q_93 q_94 q_95 q_96 q_97 q_98 q_99 q_100 q_101 q_102 q_103 : Nat) (f_7 f_11 f_15 f_19 f_24 f_27 f_32 f_38 f_42 f_45 f_49 f_53 f_57 f_61 : Nat → Int32) (hP : va_P D vwCl ((h0, .inr (11, [.ref q_1, .int 0, .int 0, .int 0, .int 0, .int 0, .int 0, .int 0, .int (-1), .ref q_2, .ref q_8, .ref q_12, .ref q_16, .ref q_20, .ref q_25, .ref q_28, .ref q_33, .ref q_39, .ref q_43, .ref q_46, .ref q_50, .ref q_54, .ref q_58, .int 0, .ref q_62, .ref q_63, .ref q_64, .ref q_65, .ref q_66, .int 0, .ref q_67, .int 0, .int 0, .int 0, .ref q_68, .ref q_69, .ref q_70, .ref q_71, .ref q_72, .int 0, .int 0, .ref q_73, .long 0, .long 0, .int 0, .ref q_74, .ref q_75, .int 0, .int 0, .ref q_76, .ref q_77, .ref q_78, .ref q_79, .ref q_80, .int 0, .ref q_81, .ref q_82, .ref q_83, .ref q_84, .ref q_85, .ref q_86, .ref q_87, .ref q_88, .ref q_89, .ref q_90, .ref q_91, .ref q_92, .ref q_93, .int 0, .long 0, .long 0, .ref q_94, .ref q_95, .int 0, .ref q_96, .ref q_97, .ref q_98, .ref q_99, .int 0, .int 0, .ref q_100, .ref q_101, .int 0, .ref q_102, .ref q_103])) :: [(q_103, .inl (y 2, 1111, .inl (fun _ => 0))), (q_102, .inl (y 2, 1111, .inl (fun _ => 0))), (q_101, .inl (y 2, 8, .inl (fun _ => 0))), (q_100, .inl (y 2, 8, .inl (fun _ => 0))), (q_99, .inl (y 3, 1760, .inr (.inl (fun _ => 0)))), (q_98, .inl (y 3, 5280, .inr (.inl (fun _ => 0)))), (q_97, .inl (y 3, 5280, .inr (.inl (fun _ => 0)))), (q_96, .inl (y 4, 1760, .inl (fun _ => 0))), (q_95, .inl (y 2, 800, .inl (fun _ => 0))), (q_94, .inl (y 2, 84, .inl (fun _ => 0))), (q_93, .inl (y 2, 2, .inl (fun _ => 0))), (q_92, .inl (y 2, 2, .inl (fun _ => 0))), (q_91, .inl (y 2, 24, .inl (fun _ => 0))), (q_90, .inl (y 2, 2, .inl (fun _ => 0))), (q_89, .inl (y 2, 2, .inl (fun _ => 0))), (q_88, .inl (y 2, 2, .inl (fun _ => 0))), (q_87, .inl (y 2, 3520, .inl (fun _ => 0))), (q_86, .inl (y 2, 3520, .inl (fun _ => 0))), (q_85, .inl (y 2, 3520, .inl (fun _ => 0))), (q_84, .inl (y 3, 3520, .inr (.inl (fun _ => 0)))), (q_83, .inl (y 3, 3520, .inr (.inl (fun _ => 0)))), (q_82, .inl (y 3, 16, .inr (.inl (fun _ => 0)))), (q_81, .inl (y 3, 16, .inr (.inl (fun _ => 0)))), (q_80, .inl (y 3, 41, .inr (.inl (fun _ => 0)))), (q_79, .inl (y 3, 41, .inr (.inl (fun _ => 0)))), (q_78, .inl (y 3, 41, .inr (.inl (fun _ => 0)))), (q_77, .inl (y 3, 41, .inr (.inl (fun _ => 0)))), (q_76, .inl (y 2, 41, .inl (fun _ => 0))), (q_75, .inl (y 3, 8, .inr (.inl (vp_updL (vp_updL (vp_updL (vp_updL (vp_updL (vp_updL (vp_updL (vp_updL (fun _ => 0) (Int32.toNatClampNeg 0) 1) (Int32.toNatClampNeg 1) 1) (Int32.toNatClampNeg 2) 1) (Int32.toNatClampNeg 3) 1) (Int32.toNatClampNeg 4) 1) (Int32.toNatClampNeg 5) 1) (Int32.toNatClampNeg 6) 1) (Int32.toNatClampNeg 7) 1)))), (q_74, .inl (y 3, 8, .inr (.inl (fun _ => 0)))), (q_73, .inl (y 2, 700, .inl (fun _ => 0))), (q_72, .inl (y 2, 8, .inl (fun _ => 0))), (q_71, .inl (y 2, 8, .inl (fun _ => 0))), (q_70, .inl (y 2, 8, .inl (fun _ => 0))), (q_69, .inl (y 2, 24, .inl (fun _ => 0))), (q_68, .inl (y 3, 24, .inr (.inl (fun _ => 0)))), (q_67, .inl (y 2, 800, .inl (fun _ => 0))), (q_66, .inl (y 2, 2, .inl (fun _ => 0))), (q_65, .inl (y 2, 2400, .inl (fun _ => 0))), (q_64, .inl (y 2, 1400, .inl (fun _ => 0))), (q_63, .inl (y 2, 8, .inl (fun _ => 0))), (q_62, .inl (y 2, 10, .inl (fun _ => 0))), (q_58, .inl (y 1, 3, .inl f_61)), (q_54, .inl (y 1, 3, .inl f_57)), (q_50, .inl (y 1, 3, .inl f_53)), (q_46, .inl (y 1, 3, .inl f_49)), (q_43, .inl (y 1, 2, .inl f_45)), (q_39, .inl (y 1, 3, .inl f_42)), (q_33, .inl (y 1, 5, .inl f_38)), (q_28, .inl (y 1, 4, .inl f_32)), (q_25, .inl (y 1, 2, .inl f_27)), (q_20, .inl (y 1, 4, .inl f_24)), (q_16, .inl (y 1, 3, .inl f_19)), (q_12, .inl (y 1, 3, .inl f_15)), (q_8, .inl (y 1, 3, .inl f_11)), (q_2, .inl (y 1, 5, .inl f_7)), (q_1, .inl (y 2, 700, .inl (fun _ => 0)))]) H) (hD : va_D A ((h0, .inr (11, [.ref q_1, .int 0, .int 0, .int 0, .int 0, .int 0, .int 0, .int 0, .int (-1), .ref q_2, .ref q_8, .ref q_12, .ref q_16, .ref q_20, .ref q_25, .ref q_28, .ref q_33, .ref q_39, .ref q_43, .ref q_46, .ref q_50, .ref q_54, .ref q_58, .int 0, .ref q_62, .ref q_63, .ref q_64, .ref q_65, .ref q_66, .int 0, .ref q_67, .int 0, .int 0, .int 0, .ref q_68, .ref q_69, .ref q_70, .ref q_71, .ref q_72, .int 0, .int 0, .ref q_73, .long 0, .long 0, .int 0, .ref q_74, .ref q_75, .int 0, .int 0, .ref q_76, .ref q_77, .ref q_78, .ref q_79, .ref q_80, .int 0, .ref q_81, .ref q_82, .ref q_83, .ref q_84, .ref q_85, .ref q_86, .ref q_87, .ref q_88, .ref q_89, .ref q_90, .ref q_91, .ref q_92, .ref q_93, .int 0, .long 0, .long 0, .ref q_94, .ref q_95, .int 0, .ref q_96, .ref q_97, .ref q_98, .ref q_99, .int 0, .int 0, .ref q_100, .ref q_101, .int 0, .ref q_102, .ref q_103])) :: [(q_103, .inl (y 2, 1111, .inl (fun _ => 0))), (q_102, .inl (y 2, 1111, .inl (fun _ => 0))), (q_101, .inl (y 2, 8, .inl (fun _ => 0))), (q_100, .inl (y 2, 8, .inl (fun _ => 0))), (q_99, .inl (y 3, 1760, .inr (.inl (fun _ => 0)))), (q_98, .inl (y 3, 5280, .inr (.inl (fun _ => 0)))), (q_97, .inl (y 3, 5280, .inr (.inl (fun _ => 0)))), (q_96, .inl (y 4, 1760, .inl (fun _ => 0))), (q_95, .inl (y 2, 800, .inl (fun _ => 0))), (q_94, .inl (y 2, 84, .inl (fun _ => 0))), (q_93, .inl (y 2, 2, .inl (fun _ => 0))), (q_92, .inl (y 2, 2, .inl (fun _ => 0))), (q_91, .inl (y 2, 24, .inl (fun _ => 0))), (q_90, .inl (y 2, 2, .inl (fun _ => 0))), (q_89, .inl (y 2, 2, .inl (fun _ => 0))), (q_88, .inl (y 2, 2, .inl (fun _ => 0))), (q_87, .inl (y 2, 3520, .inl (fun _ => 0))), (q_86, .inl (y 2, 3520, .inl (fun _ => 0))), (q_85, .inl (y 2, 3520, .inl (fun _ => 0))), (q_84, .inl (y 3, 3520, .inr (.inl (fun _ => 0)))), (q_83, .inl (y 3, 3520, .inr (.inl (fun _ => 0)))), (q_82, .inl (y 3, 16, .inr (.inl (fun _ => 0)))), (q_81, .inl (y 3, 16, .inr (.inl (fun _ => 0)))), (q_80, .inl (y 3, 41, .inr (.inl (fun _ => 0)))), (q_79, .inl (y 3, 41, .inr (.inl (fun _ => 0)))), (q_78, .inl (y 3, 41, .inr (.inl (fun _ => 0)))), (q_77, .inl (y 3, 41, .inr (.inl (fun _ => 0)))), (q_76, .inl (y 2, 41, .inl (fun _ => 0))), (q_75, .inl (y 3, 8, .inr (.inl (vp_updL (vp_updL (vp_updL (vp_updL (vp_updL (vp_updL (vp_updL (vp_updL (fun _ => 0) (Int32.toNatClampNeg 0) 1) (Int32.toNatClampNeg 1) 1) (Int32.toNatClampNeg 2) 1) (Int32.toNatClampNeg 3) 1) (Int32.toNatClampNeg 4) 1) (Int32.toNatClampNeg 5) 1) (Int32.toNatClampNeg 6) 1) (Int32.toNatClampNeg 7) 1)))), (q_74, .inl (y 3, 8, .inr (.inl (fun _ => 0)))), (q_73, .inl (y 2, 700, .inl (fun _ => 0))), (q_72, .inl (y 2, 8, .inl (fun _ => 0))), (q_71, .inl (y 2, 8, .inl (fun _ => 0))), (q_70, .inl (y 2, 8, .inl (fun _ => 0))), (q_69, .inl (y 2, 24, .inl (fun _ => 0))), (q_68, .inl (y 3, 24, .inr (.inl (fun _ => 0)))), (q_67, .inl (y 2, 800, .inl (fun _ => 0))), (q_66, .inl (y 2, 2, .inl (fun _ => 0))), (q_65, .inl (y 2, 2400, .inl (fun _ => 0))), (q_64, .inl (y 2, 1400, .inl (fun _ => 0))), (q_63, .inl (y 2, 8, .inl (fun _ => 0))), (q_62, .inl (y 2, 10, .inl (fun _ => 0))), (q_58, .inl (y 1, 3, .inl f_61)), (q_54, .inl (y 1, 3, .inl f_57)), (q_50, .inl (y 1, 3, .inl f_53)), (q_46, .inl (y 1, 3, .inl f_49)), (q_43, .inl (y 1, 2, .inl f_45)), (q_39, .inl (y 1, 3, .inl f_42)), (q_33, .inl (y 1, 5, .inl f_38)), (q_28, .inl (y 1, 4, .inl f_32)), (q_25, .inl (y 1, 2, .inl f_27)), (q_20, .inl (y 1, 4, .inl f_24)), (q_16, .inl (y 1, 3, .inl f_19)), (q_12, .inl (y 1, 3, .inl f_15)), (q_8, .inl (y 1, 3, .inl f_11)), (q_2, .inl (y 1, 5, .inl f_7)), (q_1, .inl (y 2, 700, .inl (fun _ => 0)))])) : ∃ u : (Nat → Nat) × (Nat → Nat → Int32) × (Nat → Int64), (bJ u.2.2 0 1000000000) ∧ va_P D vwCl (mW y h0 u) H ∧ va_D A (mW y h0 u) := by
  have hpb : bJ (vp_updL (vp_updL (vp_updL (vp_updL (vp_updL (vp_updL (vp_updL (vp_updL (fun _ => 0) (Int32.toNatClampNeg 0) 1) (Int32.toNatClampNeg 1) 1) (Int32.toNatClampNeg 2) 1) (Int32.toNatClampNeg 3) 1) (Int32.toNatClampNeg 4) 1) (Int32.toNatClampNeg 5) 1) (Int32.toNatClampNeg 6) 1) (Int32.toNatClampNeg 7) 1) 0 1000000000 := by
    repeat refine x_bju ?_ (by decide)
    exact fun _ => (by decide : (0 : Int) ≤ (0 : Int64).toInt ∧ (0 : Int64).toInt ≤ 1000000000)
  obtain ⟨ub, eub⟩ : ∃ z : Nat → Int64, z = (vp_updL (vp_updL (vp_updL (vp_updL (vp_updL (vp_updL (vp_updL (vp_updL (fun _ => 0) (Int32.toNatClampNeg 0) 1) (Int32.toNatClampNeg 1) 1) (Int32.toNatClampNeg 2) 1) (Int32.toNatClampNeg 3) 1) (Int32.toNatClampNeg 4) 1) (Int32.toNatClampNeg 5) 1) (Int32.toNatClampNeg 6) 1) (Int32.toNatClampNeg 7) 1) := ⟨_, rfl⟩
  rw [← eub] at hP hD hpb
  clear eub
  obtain ⟨za, eza⟩ : ∃ z : Nat → Nat, z = (fun k => List.getD [q_1, 0, 0, 0, 0, 0, 0, 0, 0, q_2, q_8, q_12, q_16, q_20, q_25, q_28, q_33, q_39, q_43, q_46, q_50, q_54, q_58, 0, q_62, q_63, q_64, q_65, q_66, 0, q_67, 0, 0, 0, q_68, q_69, q_70, q_71, q_72, 0, 0, q_73, 0, 0, 0, q_74, q_75, 0, 0, q_76, q_77, q_78, q_79, q_80, 0, q_81, q_82, q_83, q_84, q_85, q_86, q_87, q_88, q_89, q_90, q_91, q_92, q_93, 0, 0, 0, q_94, q_95, 0, q_96, q_97, q_98, q_99, 0, 0, q_100, q_101, 0, q_102, q_103] k 0) := ⟨_, rfl⟩
  have za0 : q_1 = za 0 := by rw [eza]; rfl
  have za9 : q_2 = za 9 := by rw [eza]; rfl
  have za10 : q_8 = za 10 := by rw [eza]; rfl
  have za11 : q_12 = za 11 := by rw [eza]; rfl
  have za12 : q_16 = za 12 := by rw [eza]; rfl
  have za13 : q_20 = za 13 := by rw [eza]; rfl
  have za14 : q_25 = za 14 := by rw [eza]; rfl
  have za15 : q_28 = za 15 := by rw [eza]; rfl
  have za16 : q_33 = za 16 := by rw [eza]; rfl
  have za17 : q_39 = za 17 := by rw [eza]; rfl
  have za18 : q_43 = za 18 := by rw [eza]; rfl
  have za19 : q_46 = za 19 := by rw [eza]; rfl
  have za20 : q_50 = za 20 := by rw [eza]; rfl
  have za21 : q_54 = za 21 := by rw [eza]; rfl
  have za22 : q_58 = za 22 := by rw [eza]; rfl
  have za24 : q_62 = za 24 := by rw [eza]; rfl
  have za25 : q_63 = za 25 := by rw [eza]; rfl
  have za26 : q_64 = za 26 := by rw [eza]; rfl
  have za27 : q_65 = za 27 := by rw [eza]; rfl
  have za28 : q_66 = za 28 := by rw [eza]; rfl
  have za30 : q_67 = za 30 := by rw [eza]; rfl
  have za34 : q_68 = za 34 := by rw [eza]; rfl
  have za35 : q_69 = za 35 := by rw [eza]; rfl
  have za36 : q_70 = za 36 := by rw [eza]; rfl
  have za37 : q_71 = za 37 := by rw [eza]; rfl
  have za38 : q_72 = za 38 := by rw [eza]; rfl
  have za41 : q_73 = za 41 := by rw [eza]; rfl
  have za45 : q_74 = za 45 := by rw [eza]; rfl
  have za46 : q_75 = za 46 := by rw [eza]; rfl
  have za49 : q_76 = za 49 := by rw [eza]; rfl
  have za50 : q_77 = za 50 := by rw [eza]; rfl
  have za51 : q_78 = za 51 := by rw [eza]; rfl
  have za52 : q_79 = za 52 := by rw [eza]; rfl
  have za53 : q_80 = za 53 := by rw [eza]; rfl
  have za55 : q_81 = za 55 := by rw [eza]; rfl
  have za56 : q_82 = za 56 := by rw [eza]; rfl
  have za57 : q_83 = za 57 := by rw [eza]; rfl
  have za58 : q_84 = za 58 := by rw [eza]; rfl
  have za59 : q_85 = za 59 := by rw [eza]; rfl
  have za60 : q_86 = za 60 := by rw [eza]; rfl
  have za61 : q_87 = za 61 := by rw [eza]; rfl
  have za62 : q_88 = za 62 := by rw [eza]; rfl
  have za63 : q_89 = za 63 := by rw [eza]; rfl
  have za64 : q_90 = za 64 := by rw [eza]; rfl
  have za65 : q_91 = za 65 := by rw [eza]; rfl
  have za66 : q_92 = za 66 := by rw [eza]; rfl
  have za67 : q_93 = za 67 := by rw [eza]; rfl
  have za71 : q_94 = za 71 := by rw [eza]; rfl
  have za72 : q_95 = za 72 := by rw [eza]; rfl
  have za74 : q_96 = za 74 := by rw [eza]; rfl
  have za75 : q_97 = za 75 := by rw [eza]; rfl
  have za76 : q_98 = za 76 := by rw [eza]; rfl
  have za77 : q_99 = za 77 := by rw [eza]; rfl
  have za80 : q_100 = za 80 := by rw [eza]; rfl
  have za81 : q_101 = za 81 := by rw [eza]; rfl
  have za83 : q_102 = za 83 := by rw [eza]; rfl
  have za84 : q_103 = za 84 := by rw [eza]; rfl
  clear eza
  obtain ⟨zw, ezw⟩ : ∃ z : Nat → Nat → Int32, z = (fun k => List.getD [f_7, f_11, f_15, f_19, f_24, f_27, f_32, f_38, f_42, f_45, f_49, f_53, f_57, f_61] (k - 9) (fun _ => 0)) := ⟨_, rfl⟩
  have zw9 : f_7 = zw 9 := by rw [ezw]; rfl
  have zw10 : f_11 = zw 10 := by rw [ezw]; rfl
  have zw11 : f_15 = zw 11 := by rw [ezw]; rfl
  have zw12 : f_19 = zw 12 := by rw [ezw]; rfl
  have zw13 : f_24 = zw 13 := by rw [ezw]; rfl
  have zw14 : f_27 = zw 14 := by rw [ezw]; rfl
  have zw15 : f_32 = zw 15 := by rw [ezw]; rfl
  have zw16 : f_38 = zw 16 := by rw [ezw]; rfl
  have zw17 : f_42 = zw 17 := by rw [ezw]; rfl
  have zw18 : f_45 = zw 18 := by rw [ezw]; rfl
  have zw19 : f_49 = zw 19 := by rw [ezw]; rfl
  have zw20 : f_53 = zw 20 := by rw [ezw]; rfl
  have zw21 : f_57 = zw 21 := by rw [ezw]; rfl
  have zw22 : f_61 = zw 22 := by rw [ezw]; rfl
  clear ezw
  have ef85 : ([] : List (Value)) = [] := rfl
  have ef84 := x_co (show (.ref q_103 : Value) = .ref (za 84) from (x_rf za84)) ef85
  have ef83 := x_co (show (.ref q_102 : Value) = .ref (za 83) from (x_rf za83)) ef84
  have ef82 := x_co (show (.int 0 : Value) = .int (xI0 82) from (x_i0 (by decide))) ef83
  have ef81 := x_co (show (.ref q_101 : Value) = .ref (za 81) from (x_rf za81)) ef82
  have ef80 := x_co (show (.ref q_100 : Value) = .ref (za 80) from (x_rf za80)) ef81
  have ef79 := x_co (show (.int 0 : Value) = .int (xI0 79) from (x_i0 (by decide))) ef80
  have ef78 := x_co (show (.int 0 : Value) = .int (xI0 78) from (x_i0 (by decide))) ef79
  have ef77 := x_co (show (.ref q_99 : Value) = .ref (za 77) from (x_rf za77)) ef78
  have ef76 := x_co (show (.ref q_98 : Value) = .ref (za 76) from (x_rf za76)) ef77
  have ef75 := x_co (show (.ref q_97 : Value) = .ref (za 75) from (x_rf za75)) ef76
  have ef74 := x_co (show (.ref q_96 : Value) = .ref (za 74) from (x_rf za74)) ef75
  have ef73 := x_co (show (.int 0 : Value) = .int (xI0 73) from (x_i0 (by decide))) ef74
  have ef72 := x_co (show (.ref q_95 : Value) = .ref (za 72) from (x_rf za72)) ef73
  have ef71 := x_co (show (.ref q_94 : Value) = .ref (za 71) from (x_rf za71)) ef72
  have ef70 := x_co (show (.long 0 : Value) = .long (xJ0 70) from rfl) ef71
  have ef69 := x_co (show (.long 0 : Value) = .long (xJ0 69) from rfl) ef70
  have ef68 := x_co (show (.int 0 : Value) = .int (xI0 68) from (x_i0 (by decide))) ef69
  have ef67 := x_co (show (.ref q_93 : Value) = .ref (za 67) from (x_rf za67)) ef68
  have ef66 := x_co (show (.ref q_92 : Value) = .ref (za 66) from (x_rf za66)) ef67
  have ef65 := x_co (show (.ref q_91 : Value) = .ref (za 65) from (x_rf za65)) ef66
  have ef64 := x_co (show (.ref q_90 : Value) = .ref (za 64) from (x_rf za64)) ef65
  have ef63 := x_co (show (.ref q_89 : Value) = .ref (za 63) from (x_rf za63)) ef64
  have ef62 := x_co (show (.ref q_88 : Value) = .ref (za 62) from (x_rf za62)) ef63
  have ef61 := x_co (show (.ref q_87 : Value) = .ref (za 61) from (x_rf za61)) ef62
  have ef60 := x_co (show (.ref q_86 : Value) = .ref (za 60) from (x_rf za60)) ef61
  have ef59 := x_co (show (.ref q_85 : Value) = .ref (za 59) from (x_rf za59)) ef60
  have ef58 := x_co (show (.ref q_84 : Value) = .ref (za 58) from (x_rf za58)) ef59
  have ef57 := x_co (show (.ref q_83 : Value) = .ref (za 57) from (x_rf za57)) ef58
  have ef56 := x_co (show (.ref q_82 : Value) = .ref (za 56) from (x_rf za56)) ef57
  have ef55 := x_co (show (.ref q_81 : Value) = .ref (za 55) from (x_rf za55)) ef56
  have ef54 := x_co (show (.int 0 : Value) = .int (xI0 54) from (x_i0 (by decide))) ef55
  have ef53 := x_co (show (.ref q_80 : Value) = .ref (za 53) from (x_rf za53)) ef54
  have ef52 := x_co (show (.ref q_79 : Value) = .ref (za 52) from (x_rf za52)) ef53
  have ef51 := x_co (show (.ref q_78 : Value) = .ref (za 51) from (x_rf za51)) ef52
  have ef50 := x_co (show (.ref q_77 : Value) = .ref (za 50) from (x_rf za50)) ef51
  have ef49 := x_co (show (.ref q_76 : Value) = .ref (za 49) from (x_rf za49)) ef50
  have ef48 := x_co (show (.int 0 : Value) = .int (xI0 48) from (x_i0 (by decide))) ef49
  have ef47 := x_co (show (.int 0 : Value) = .int (xI0 47) from (x_i0 (by decide))) ef48
  have ef46 := x_co (show (.ref q_75 : Value) = .ref (za 46) from (x_rf za46)) ef47
  have ef45 := x_co (show (.ref q_74 : Value) = .ref (za 45) from (x_rf za45)) ef46
  have ef44 := x_co (show (.int 0 : Value) = .int (xI0 44) from (x_i0 (by decide))) ef45
  have ef43 := x_co (show (.long 0 : Value) = .long (xJ0 43) from rfl) ef44
  have ef42 := x_co (show (.long 0 : Value) = .long (xJ0 42) from rfl) ef43
  have ef41 := x_co (show (.ref q_73 : Value) = .ref (za 41) from (x_rf za41)) ef42
  have ef40 := x_co (show (.int 0 : Value) = .int (xI0 40) from (x_i0 (by decide))) ef41
  have ef39 := x_co (show (.int 0 : Value) = .int (xI0 39) from (x_i0 (by decide))) ef40
  have ef38 := x_co (show (.ref q_72 : Value) = .ref (za 38) from (x_rf za38)) ef39
  have ef37 := x_co (show (.ref q_71 : Value) = .ref (za 37) from (x_rf za37)) ef38
  have ef36 := x_co (show (.ref q_70 : Value) = .ref (za 36) from (x_rf za36)) ef37
  have ef35 := x_co (show (.ref q_69 : Value) = .ref (za 35) from (x_rf za35)) ef36
  have ef34 := x_co (show (.ref q_68 : Value) = .ref (za 34) from (x_rf za34)) ef35
  have ef33 := x_co (show (.int 0 : Value) = .int (xI0 33) from (x_i0 (by decide))) ef34
  have ef32 := x_co (show (.int 0 : Value) = .int (xI0 32) from (x_i0 (by decide))) ef33
  have ef31 := x_co (show (.int 0 : Value) = .int (xI0 31) from (x_i0 (by decide))) ef32
  have ef30 := x_co (show (.ref q_67 : Value) = .ref (za 30) from (x_rf za30)) ef31
  have ef29 := x_co (show (.int 0 : Value) = .int (xI0 29) from (x_i0 (by decide))) ef30
  have ef28 := x_co (show (.ref q_66 : Value) = .ref (za 28) from (x_rf za28)) ef29
  have ef27 := x_co (show (.ref q_65 : Value) = .ref (za 27) from (x_rf za27)) ef28
  have ef26 := x_co (show (.ref q_64 : Value) = .ref (za 26) from (x_rf za26)) ef27
  have ef25 := x_co (show (.ref q_63 : Value) = .ref (za 25) from (x_rf za25)) ef26
  have ef24 := x_co (show (.ref q_62 : Value) = .ref (za 24) from (x_rf za24)) ef25
  have ef23 := x_co (show (.int 0 : Value) = .int (xI0 23) from (x_i0 (by decide))) ef24
  have ef22 := x_co (show (.ref q_58 : Value) = .ref (za 22) from (x_rf za22)) ef23
  have ef21 := x_co (show (.ref q_54 : Value) = .ref (za 21) from (x_rf za21)) ef22
  have ef20 := x_co (show (.ref q_50 : Value) = .ref (za 20) from (x_rf za20)) ef21
  have ef19 := x_co (show (.ref q_46 : Value) = .ref (za 19) from (x_rf za19)) ef20
  have ef18 := x_co (show (.ref q_43 : Value) = .ref (za 18) from (x_rf za18)) ef19
  have ef17 := x_co (show (.ref q_39 : Value) = .ref (za 17) from (x_rf za17)) ef18
  have ef16 := x_co (show (.ref q_33 : Value) = .ref (za 16) from (x_rf za16)) ef17
  have ef15 := x_co (show (.ref q_28 : Value) = .ref (za 15) from (x_rf za15)) ef16
  have ef14 := x_co (show (.ref q_25 : Value) = .ref (za 14) from (x_rf za14)) ef15
  have ef13 := x_co (show (.ref q_20 : Value) = .ref (za 13) from (x_rf za13)) ef14
  have ef12 := x_co (show (.ref q_16 : Value) = .ref (za 12) from (x_rf za12)) ef13
  have ef11 := x_co (show (.ref q_12 : Value) = .ref (za 11) from (x_rf za11)) ef12
  have ef10 := x_co (show (.ref q_8 : Value) = .ref (za 10) from (x_rf za10)) ef11
  have ef9 := x_co (show (.ref q_2 : Value) = .ref (za 9) from (x_rf za9)) ef10
  have ef8 := x_co (show (.int (-1) : Value) = .int (xI0 8) from rfl) ef9
  have ef7 := x_co (show (.int 0 : Value) = .int (xI0 7) from (x_i0 (by decide))) ef8
  have ef6 := x_co (show (.int 0 : Value) = .int (xI0 6) from (x_i0 (by decide))) ef7
  have ef5 := x_co (show (.int 0 : Value) = .int (xI0 5) from (x_i0 (by decide))) ef6
  have ef4 := x_co (show (.int 0 : Value) = .int (xI0 4) from (x_i0 (by decide))) ef5
  have ef3 := x_co (show (.int 0 : Value) = .int (xI0 3) from (x_i0 (by decide))) ef4
  have ef2 := x_co (show (.int 0 : Value) = .int (xI0 2) from (x_i0 (by decide))) ef3
  have ef1 := x_co (show (.int 0 : Value) = .int (xI0 1) from (x_i0 (by decide))) ef2
  have ef0 := x_co (show (.ref q_1 : Value) = .ref (za 0) from (x_rf za0)) ef1
  have ew58 : ([] : List (Nat × va_E)) = [] := rfl
  have ew57 := x_co (show ((q_1, .inl (y 2, 700, .inl (fun _ => 0))) : Nat × va_E) = ((za 0), .inl (y 2, 700, .inl (fun _ => 0))) from x_cI za0 rfl) ew58
  have ew56 := x_co (show ((q_2, .inl (y 1, 5, .inl f_7)) : Nat × va_E) = ((za 9), .inl (y 1, 5, .inl (zw 9))) from x_cI za9 zw9) ew57
  have ew55 := x_co (show ((q_8, .inl (y 1, 3, .inl f_11)) : Nat × va_E) = ((za 10), .inl (y 1, 3, .inl (zw 10))) from x_cI za10 zw10) ew56
  have ew54 := x_co (show ((q_12, .inl (y 1, 3, .inl f_15)) : Nat × va_E) = ((za 11), .inl (y 1, 3, .inl (zw 11))) from x_cI za11 zw11) ew55
  have ew53 := x_co (show ((q_16, .inl (y 1, 3, .inl f_19)) : Nat × va_E) = ((za 12), .inl (y 1, 3, .inl (zw 12))) from x_cI za12 zw12) ew54
  have ew52 := x_co (show ((q_20, .inl (y 1, 4, .inl f_24)) : Nat × va_E) = ((za 13), .inl (y 1, 4, .inl (zw 13))) from x_cI za13 zw13) ew53
  have ew51 := x_co (show ((q_25, .inl (y 1, 2, .inl f_27)) : Nat × va_E) = ((za 14), .inl (y 1, 2, .inl (zw 14))) from x_cI za14 zw14) ew52
  have ew50 := x_co (show ((q_28, .inl (y 1, 4, .inl f_32)) : Nat × va_E) = ((za 15), .inl (y 1, 4, .inl (zw 15))) from x_cI za15 zw15) ew51
  have ew49 := x_co (show ((q_33, .inl (y 1, 5, .inl f_38)) : Nat × va_E) = ((za 16), .inl (y 1, 5, .inl (zw 16))) from x_cI za16 zw16) ew50
  have ew48 := x_co (show ((q_39, .inl (y 1, 3, .inl f_42)) : Nat × va_E) = ((za 17), .inl (y 1, 3, .inl (zw 17))) from x_cI za17 zw17) ew49
  have ew47 := x_co (show ((q_43, .inl (y 1, 2, .inl f_45)) : Nat × va_E) = ((za 18), .inl (y 1, 2, .inl (zw 18))) from x_cI za18 zw18) ew48
  have ew46 := x_co (show ((q_46, .inl (y 1, 3, .inl f_49)) : Nat × va_E) = ((za 19), .inl (y 1, 3, .inl (zw 19))) from x_cI za19 zw19) ew47
  have ew45 := x_co (show ((q_50, .inl (y 1, 3, .inl f_53)) : Nat × va_E) = ((za 20), .inl (y 1, 3, .inl (zw 20))) from x_cI za20 zw20) ew46
  have ew44 := x_co (show ((q_54, .inl (y 1, 3, .inl f_57)) : Nat × va_E) = ((za 21), .inl (y 1, 3, .inl (zw 21))) from x_cI za21 zw21) ew45
  have ew43 := x_co (show ((q_58, .inl (y 1, 3, .inl f_61)) : Nat × va_E) = ((za 22), .inl (y 1, 3, .inl (zw 22))) from x_cI za22 zw22) ew44
  have ew42 := x_co (show ((q_62, .inl (y 2, 10, .inl (fun _ => 0))) : Nat × va_E) = ((za 24), .inl (y 2, 10, .inl (fun _ => 0))) from x_cI za24 rfl) ew43
  have ew41 := x_co (show ((q_63, .inl (y 2, 8, .inl (fun _ => 0))) : Nat × va_E) = ((za 25), .inl (y 2, 8, .inl (fun _ => 0))) from x_cI za25 rfl) ew42
  have ew40 := x_co (show ((q_64, .inl (y 2, 1400, .inl (fun _ => 0))) : Nat × va_E) = ((za 26), .inl (y 2, 1400, .inl (fun _ => 0))) from x_cI za26 rfl) ew41
  have ew39 := x_co (show ((q_65, .inl (y 2, 2400, .inl (fun _ => 0))) : Nat × va_E) = ((za 27), .inl (y 2, 2400, .inl (fun _ => 0))) from x_cI za27 rfl) ew40
  have ew38 := x_co (show ((q_66, .inl (y 2, 2, .inl (fun _ => 0))) : Nat × va_E) = ((za 28), .inl (y 2, 2, .inl (fun _ => 0))) from x_cI za28 rfl) ew39
  have ew37 := x_co (show ((q_67, .inl (y 2, 800, .inl (fun _ => 0))) : Nat × va_E) = ((za 30), .inl (y 2, 800, .inl (fun _ => 0))) from x_cI za30 rfl) ew38
  have ew36 := x_co (show ((q_68, .inl (y 3, 24, .inr (.inl (fun _ => 0)))) : Nat × va_E) = ((za 34), .inl (y 3, 24, .inr (.inl (fun _ => 0)))) from x_cJ za34 rfl) ew37
  have ew35 := x_co (show ((q_69, .inl (y 2, 24, .inl (fun _ => 0))) : Nat × va_E) = ((za 35), .inl (y 2, 24, .inl (fun _ => 0))) from x_cI za35 rfl) ew36
  have ew34 := x_co (show ((q_70, .inl (y 2, 8, .inl (fun _ => 0))) : Nat × va_E) = ((za 36), .inl (y 2, 8, .inl (fun _ => 0))) from x_cI za36 rfl) ew35
  have ew33 := x_co (show ((q_71, .inl (y 2, 8, .inl (fun _ => 0))) : Nat × va_E) = ((za 37), .inl (y 2, 8, .inl (fun _ => 0))) from x_cI za37 rfl) ew34
  have ew32 := x_co (show ((q_72, .inl (y 2, 8, .inl (fun _ => 0))) : Nat × va_E) = ((za 38), .inl (y 2, 8, .inl (fun _ => 0))) from x_cI za38 rfl) ew33
  have ew31 := x_co (show ((q_73, .inl (y 2, 700, .inl (fun _ => 0))) : Nat × va_E) = ((za 41), .inl (y 2, 700, .inl (fun _ => 0))) from x_cI za41 rfl) ew32
  have ew30 := x_co (show ((q_74, .inl (y 3, 8, .inr (.inl (fun _ => 0)))) : Nat × va_E) = ((za 45), .inl (y 3, 8, .inr (.inl (fun _ => 0)))) from x_cJ za45 rfl) ew31
  have ew29 := x_co (show ((q_75, .inl (y 3, 8, .inr (.inl ub))) : Nat × va_E) = ((za 46), .inl (y 3, 8, .inr (.inl ub))) from x_cJ za46 rfl) ew30
  have ew28 := x_co (show ((q_76, .inl (y 2, 41, .inl (fun _ => 0))) : Nat × va_E) = ((za 49), .inl (y 2, 41, .inl (fun _ => 0))) from x_cI za49 rfl) ew29
  have ew27 := x_co (show ((q_77, .inl (y 3, 41, .inr (.inl (fun _ => 0)))) : Nat × va_E) = ((za 50), .inl (y 3, 41, .inr (.inl (fun _ => 0)))) from x_cJ za50 rfl) ew28
  have ew26 := x_co (show ((q_78, .inl (y 3, 41, .inr (.inl (fun _ => 0)))) : Nat × va_E) = ((za 51), .inl (y 3, 41, .inr (.inl (fun _ => 0)))) from x_cJ za51 rfl) ew27
  have ew25 := x_co (show ((q_79, .inl (y 3, 41, .inr (.inl (fun _ => 0)))) : Nat × va_E) = ((za 52), .inl (y 3, 41, .inr (.inl (fun _ => 0)))) from x_cJ za52 rfl) ew26
  have ew24 := x_co (show ((q_80, .inl (y 3, 41, .inr (.inl (fun _ => 0)))) : Nat × va_E) = ((za 53), .inl (y 3, 41, .inr (.inl (fun _ => 0)))) from x_cJ za53 rfl) ew25
  have ew23 := x_co (show ((q_81, .inl (y 3, 16, .inr (.inl (fun _ => 0)))) : Nat × va_E) = ((za 55), .inl (y 3, 16, .inr (.inl (fun _ => 0)))) from x_cJ za55 rfl) ew24
  have ew22 := x_co (show ((q_82, .inl (y 3, 16, .inr (.inl (fun _ => 0)))) : Nat × va_E) = ((za 56), .inl (y 3, 16, .inr (.inl (fun _ => 0)))) from x_cJ za56 rfl) ew23
  have ew21 := x_co (show ((q_83, .inl (y 3, 3520, .inr (.inl (fun _ => 0)))) : Nat × va_E) = ((za 57), .inl (y 3, 3520, .inr (.inl (fun _ => 0)))) from x_cJ za57 rfl) ew22
  have ew20 := x_co (show ((q_84, .inl (y 3, 3520, .inr (.inl (fun _ => 0)))) : Nat × va_E) = ((za 58), .inl (y 3, 3520, .inr (.inl (fun _ => 0)))) from x_cJ za58 rfl) ew21
  have ew19 := x_co (show ((q_85, .inl (y 2, 3520, .inl (fun _ => 0))) : Nat × va_E) = ((za 59), .inl (y 2, 3520, .inl (fun _ => 0))) from x_cI za59 rfl) ew20
  have ew18 := x_co (show ((q_86, .inl (y 2, 3520, .inl (fun _ => 0))) : Nat × va_E) = ((za 60), .inl (y 2, 3520, .inl (fun _ => 0))) from x_cI za60 rfl) ew19
  have ew17 := x_co (show ((q_87, .inl (y 2, 3520, .inl (fun _ => 0))) : Nat × va_E) = ((za 61), .inl (y 2, 3520, .inl (fun _ => 0))) from x_cI za61 rfl) ew18
  have ew16 := x_co (show ((q_88, .inl (y 2, 2, .inl (fun _ => 0))) : Nat × va_E) = ((za 62), .inl (y 2, 2, .inl (fun _ => 0))) from x_cI za62 rfl) ew17
  have ew15 := x_co (show ((q_89, .inl (y 2, 2, .inl (fun _ => 0))) : Nat × va_E) = ((za 63), .inl (y 2, 2, .inl (fun _ => 0))) from x_cI za63 rfl) ew16
  have ew14 := x_co (show ((q_90, .inl (y 2, 2, .inl (fun _ => 0))) : Nat × va_E) = ((za 64), .inl (y 2, 2, .inl (fun _ => 0))) from x_cI za64 rfl) ew15
  have ew13 := x_co (show ((q_91, .inl (y 2, 24, .inl (fun _ => 0))) : Nat × va_E) = ((za 65), .inl (y 2, 24, .inl (fun _ => 0))) from x_cI za65 rfl) ew14
  have ew12 := x_co (show ((q_92, .inl (y 2, 2, .inl (fun _ => 0))) : Nat × va_E) = ((za 66), .inl (y 2, 2, .inl (fun _ => 0))) from x_cI za66 rfl) ew13
  have ew11 := x_co (show ((q_93, .inl (y 2, 2, .inl (fun _ => 0))) : Nat × va_E) = ((za 67), .inl (y 2, 2, .inl (fun _ => 0))) from x_cI za67 rfl) ew12
  have ew10 := x_co (show ((q_94, .inl (y 2, 84, .inl (fun _ => 0))) : Nat × va_E) = ((za 71), .inl (y 2, 84, .inl (fun _ => 0))) from x_cI za71 rfl) ew11
  have ew9 := x_co (show ((q_95, .inl (y 2, 800, .inl (fun _ => 0))) : Nat × va_E) = ((za 72), .inl (y 2, 800, .inl (fun _ => 0))) from x_cI za72 rfl) ew10
  have ew8 := x_co (show ((q_96, .inl (y 4, 1760, .inl (fun _ => 0))) : Nat × va_E) = ((za 74), .inl (y 4, 1760, .inl (fun _ => 0))) from x_cI za74 rfl) ew9
  have ew7 := x_co (show ((q_97, .inl (y 3, 5280, .inr (.inl (fun _ => 0)))) : Nat × va_E) = ((za 75), .inl (y 3, 5280, .inr (.inl (fun _ => 0)))) from x_cJ za75 rfl) ew8
  have ew6 := x_co (show ((q_98, .inl (y 3, 5280, .inr (.inl (fun _ => 0)))) : Nat × va_E) = ((za 76), .inl (y 3, 5280, .inr (.inl (fun _ => 0)))) from x_cJ za76 rfl) ew7
  have ew5 := x_co (show ((q_99, .inl (y 3, 1760, .inr (.inl (fun _ => 0)))) : Nat × va_E) = ((za 77), .inl (y 3, 1760, .inr (.inl (fun _ => 0)))) from x_cJ za77 rfl) ew6
  have ew4 := x_co (show ((q_100, .inl (y 2, 8, .inl (fun _ => 0))) : Nat × va_E) = ((za 80), .inl (y 2, 8, .inl (fun _ => 0))) from x_cI za80 rfl) ew5
  have ew3 := x_co (show ((q_101, .inl (y 2, 8, .inl (fun _ => 0))) : Nat × va_E) = ((za 81), .inl (y 2, 8, .inl (fun _ => 0))) from x_cI za81 rfl) ew4
  have ew2 := x_co (show ((q_102, .inl (y 2, 1111, .inl (fun _ => 0))) : Nat × va_E) = ((za 83), .inl (y 2, 1111, .inl (fun _ => 0))) from x_cI za83 rfl) ew3
  have ew1 := x_co (show ((q_103, .inl (y 2, 1111, .inl (fun _ => 0))) : Nat × va_E) = ((za 84), .inl (y 2, 1111, .inl (fun _ => 0))) from x_cI za84 rfl) ew2
  have ew0 := x_co (show ((h0, .inr (11, [.ref q_1, .int 0, .int 0, .int 0, .int 0, .int 0, .int 0, .int 0, .int (-1), .ref q_2, .ref q_8, .ref q_12, .ref q_16, .ref q_20, .ref q_25, .ref q_28, .ref q_33, .ref q_39, .ref q_43, .ref q_46, .ref q_50, .ref q_54, .ref q_58, .int 0, .ref q_62, .ref q_63, .ref q_64, .ref q_65, .ref q_66, .int 0, .ref q_67, .int 0, .int 0, .int 0, .ref q_68, .ref q_69, .ref q_70, .ref q_71, .ref q_72, .int 0, .int 0, .ref q_73, .long 0, .long 0, .int 0, .ref q_74, .ref q_75, .int 0, .int 0, .ref q_76, .ref q_77, .ref q_78, .ref q_79, .ref q_80, .int 0, .ref q_81, .ref q_82, .ref q_83, .ref q_84, .ref q_85, .ref q_86, .ref q_87, .ref q_88, .ref q_89, .ref q_90, .ref q_91, .ref q_92, .ref q_93, .int 0, .long 0, .long 0, .ref q_94, .ref q_95, .int 0, .ref q_96, .ref q_97, .ref q_98, .ref q_99, .int 0, .int 0, .ref q_100, .ref q_101, .int 0, .ref q_102, .ref q_103])) : Nat × va_E) = (h0, .inr (11, mF za xI0 xJ0)) from x_oc ef0) ew1
  exact ⟨(za, zw, ub), hpb, x_trP hP ew0, x_trD hD ew0⟩


