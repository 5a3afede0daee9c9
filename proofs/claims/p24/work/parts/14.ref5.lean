theorem opc_upd {f g h : Nat → Int32} (o : opc f g h) (k : Nat) {a x z : Int32} (hx : a.toInt ≠ 0 → 0 ≤ x.toInt ∧ x.toInt ≤ 1759 ∧ 0 ≤ z.toInt ∧ z.toInt ≤ 1759) : opc (upd f k a) (upd g k x) (upd h k z) := fun j hj => by
  unfold upd at hj ⊢
  by_cases e : j = k
  · simp only [if_pos e] at hj ⊢
    exact hx (fun q => hj (Int32.toInt_inj.mp (by rw [q]; rfl)))
  · simp only [if_neg e] at hj ⊢
    exact o j hj
theorem x_upd_same (f : Nat → Int32) (k : Nat) (v : Int32) : upd f k v k = v := if_pos rfl
theorem x_upd_ne (f : Nat → Int32) {j k : Nat} (v : Int32) (h : j ≠ k) : upd f k v j = f j := if_neg h
/-- the pile holds numbers of the tape (true) and facts (false), the top first -/
def PT : List Bool → (Nat → Int32) → Int → Prop
  | [], _, _ => True
  | b :: T, g, n => (if b = true then 0 ≤ (g T.length).toInt ∧ (g T.length).toInt < n else (g T.length).toInt = 0 ∨ (g T.length).toInt = 1) ∧ PT T g n
theorem PT_mono {n n' : Int} (h : n ≤ n') {g : Nat → Int32} : ∀ {T : List Bool}, PT T g n → PT T g n'
  | [], _ => trivial
  | true :: T, q => ⟨⟨q.1.1, Int.lt_of_lt_of_le q.1.2 h⟩, PT_mono h q.2⟩
  | false :: T, q => ⟨q.1, PT_mono h q.2⟩
theorem PT_upd {n : Int} {g : Nat → Int32} {k : Nat} {v : Int32} : ∀ {T : List Bool}, T.length ≤ k → PT T g n → PT T (upd g k v) n
  | [], _, _ => trivial
  | b :: T, h, q => by
    have h1 : T.length < k := by simp only [List.length_cons] at h; omega
    refine ⟨?_, PT_upd (by omega) q.2⟩
    rw [x_upd_ne g v (by omega)]
    exact q.1
theorem PT_pushN {n : Int} {g : Nat → Int32} {k : Nat} {v : Int32} {T : List Bool} (h : PT T g n) (hk : k = T.length) (h1 : 0 ≤ v.toInt) (h2 : v.toInt < n) : PT (true :: T) (upd g k v) n := by
  subst hk
  refine ⟨?_, PT_upd (Nat.le_refl _) h⟩
  rw [x_upd_same]
  exact ⟨h1, h2⟩
theorem PT_pushF {n : Int} {g : Nat → Int32} {k : Nat} {v : Int32} {T : List Bool} (h : PT T g n) (hk : k = T.length) (h1 : v.toInt = 0 ∨ v.toInt = 1) : PT (false :: T) (upd g k v) n := by
  subst hk
  refine ⟨?_, PT_upd (Nat.le_refl _) h⟩
  rw [x_upd_same]
  exact h1
theorem PT_N {n : Int} {g : Nat → Int32} {T : List Bool} (h : PT (true :: T) g n) {x : Int32} {k : Nat} (e : x = g k) (hk : k = T.length) : 0 ≤ x.toInt ∧ x.toInt < n := by
  subst hk; rw [e]; exact h.1
theorem PT_F {n : Int} {g : Nat → Int32} {T : List Bool} (h : PT (false :: T) g n) {x : Int32} {k : Nat} (e : x = g k) (hk : k = T.length) : x.toInt = 0 ∨ x.toInt = 1 := by
  subst hk; rw [e]; exact h.1
theorem x_cl {x : Int32} {n : Nat} (h : x.toInt = n) : Int32.toNatClampNeg x = n := by
  show x.toInt.toNat = n
  omega

theorem dX12_lays_0 : decode cX12_lays 0 = .ok (.sipush 1760, 3) := by decide +kernel
theorem dX12_lays_3 : decode cX12_lays 3 = .ok (.iload_n 1, 1) := by decide +kernel
theorem dX12_lays_4 : decode cX12_lays 4 = .ok (.imul, 1) := by decide +kernel
theorem dX12_lays_5 : decode cX12_lays 5 = .ok (.aload_n 0, 1) := by decide +kernel
theorem dX12_lays_6 : decode cX12_lays 6 = .ok (.getfield 139, 3) := by decide +kernel
theorem dX12_lays_9 : decode cX12_lays 9 = .ok (.iload_n 1, 1) := by decide +kernel
theorem dX12_lays_10 : decode cX12_lays 10 = .ok (.iaload, 1) := by decide +kernel
theorem dX12_lays_11 : decode cX12_lays 11 = .ok (.iadd, 1) := by decide +kernel
theorem dX12_lays_12 : decode cX12_lays 12 = .ok (.istore 9, 2) := by decide +kernel
theorem dX12_lays_14 : decode cX12_lays 14 = .ok (.aload_n 0, 1) := by decide +kernel
theorem dX12_lays_15 : decode cX12_lays 15 = .ok (.getfield 124, 3) := by decide +kernel
theorem dX12_lays_18 : decode cX12_lays 18 = .ok (.iload 9, 2) := by decide +kernel
theorem dX12_lays_20 : decode cX12_lays 20 = .ok (.lload_n 2, 1) := by decide +kernel
theorem dX12_lays_21 : decode cX12_lays 21 = .ok (.lastore, 1) := by decide +kernel
theorem dX12_lays_22 : decode cX12_lays 22 = .ok (.aload_n 0, 1) := by decide +kernel
theorem dX12_lays_23 : decode cX12_lays 23 = .ok (.getfield 127, 3) := by decide +kernel
theorem dX12_lays_26 : decode cX12_lays 26 = .ok (.iload 9, 2) := by decide +kernel
theorem dX12_lays_28 : decode cX12_lays 28 = .ok (.lload 4, 2) := by decide +kernel
theorem dX12_lays_30 : decode cX12_lays 30 = .ok (.lastore, 1) := by decide +kernel
theorem dX12_lays_31 : decode cX12_lays 31 = .ok (.aload_n 0, 1) := by decide +kernel
theorem dX12_lays_32 : decode cX12_lays 32 = .ok (.getfield 130, 3) := by decide +kernel
theorem dX12_lays_35 : decode cX12_lays 35 = .ok (.iload 9, 2) := by decide +kernel
theorem dX12_lays_37 : decode cX12_lays 37 = .ok (.iload 6, 2) := by decide +kernel
theorem dX12_lays_39 : decode cX12_lays 39 = .ok (.iastore, 1) := by decide +kernel
theorem dX12_lays_40 : decode cX12_lays 40 = .ok (.aload_n 0, 1) := by decide +kernel
theorem dX12_lays_41 : decode cX12_lays 41 = .ok (.getfield 133, 3) := by decide +kernel
theorem dX12_lays_44 : decode cX12_lays 44 = .ok (.iload 9, 2) := by decide +kernel
theorem dX12_lays_46 : decode cX12_lays 46 = .ok (.iload 7, 2) := by decide +kernel
theorem dX12_lays_48 : decode cX12_lays 48 = .ok (.iastore, 1) := by decide +kernel
theorem dX12_lays_49 : decode cX12_lays 49 = .ok (.aload_n 0, 1) := by decide +kernel
theorem dX12_lays_50 : decode cX12_lays 50 = .ok (.getfield 136, 3) := by decide +kernel
theorem dX12_lays_53 : decode cX12_lays 53 = .ok (.iload 9, 2) := by decide +kernel
theorem dX12_lays_55 : decode cX12_lays 55 = .ok (.iload 8, 2) := by decide +kernel
theorem dX12_lays_57 : decode cX12_lays 57 = .ok (.iastore, 1) := by decide +kernel
theorem dX12_lays_58 : decode cX12_lays 58 = .ok (.aload_n 0, 1) := by decide +kernel
theorem dX12_lays_59 : decode cX12_lays 59 = .ok (.getfield 139, 3) := by decide +kernel
theorem dX12_lays_62 : decode cX12_lays 62 = .ok (.iload_n 1, 1) := by decide +kernel
theorem dX12_lays_63 : decode cX12_lays 63 = .ok (.dup2, 1) := by decide +kernel
theorem dX12_lays_64 : decode cX12_lays 64 = .ok (.iaload, 1) := by decide +kernel
theorem dX12_lays_65 : decode cX12_lays 65 = .ok (.iconst 1, 1) := by decide +kernel
theorem dX12_lays_66 : decode cX12_lays 66 = .ok (.iadd, 1) := by decide +kernel
theorem dX12_lays_67 : decode cX12_lays 67 = .ok (.iastore, 1) := by decide +kernel
theorem dX12_lays_68 : decode cX12_lays 68 = .ok (.return_, 1) := by decide +kernel
theorem dX12_nears_0 : decode cX12_nears 0 = .ok (.lload_n 2, 1) := by decide +kernel
theorem dX12_nears_1 : decode cX12_nears 1 = .ok (.lload 6, 2) := by decide +kernel
theorem dX12_nears_3 : decode cX12_nears 3 = .ok (.lcmp, 1) := by decide +kernel
theorem dX12_nears_4 : decode cX12_nears 4 = .ok (.ifCond .ne 21, 3) := by decide +kernel
theorem dX12_nears_7 : decode cX12_nears 7 = .ok (.lload 4, 2) := by decide +kernel
theorem dX12_nears_9 : decode cX12_nears 9 = .ok (.lload 8, 2) := by decide +kernel
theorem dX12_nears_11 : decode cX12_nears 11 = .ok (.lcmp, 1) := by decide +kernel
theorem dX12_nears_12 : decode cX12_nears 12 = .ok (.ifCond .ne 13, 3) := by decide +kernel
theorem dX12_nears_15 : decode cX12_nears 15 = .ok (.aload_n 0, 1) := by decide +kernel
theorem dX12_nears_16 : decode cX12_nears 16 = .ok (.getfield 151, 3) := by decide +kernel
theorem dX12_nears_19 : decode cX12_nears 19 = .ok (.iload_n 1, 1) := by decide +kernel
theorem dX12_nears_20 : decode cX12_nears 20 = .ok (.dup2, 1) := by decide +kernel
theorem dX12_nears_21 : decode cX12_nears 21 = .ok (.iaload, 1) := by decide +kernel
theorem dX12_nears_22 : decode cX12_nears 22 = .ok (.iconst 1, 1) := by decide +kernel
theorem dX12_nears_23 : decode cX12_nears 23 = .ok (.iadd, 1) := by decide +kernel
theorem dX12_nears_24 : decode cX12_nears 24 = .ok (.iastore, 1) := by decide +kernel
theorem dX12_nears_25 : decode cX12_nears 25 = .ok (.iload_n 1, 1) := by decide +kernel
theorem dX12_nears_26 : decode cX12_nears 26 = .ok (.ifCond .eq 4, 3) := by decide +kernel
theorem dX12_nears_29 : decode cX12_nears 29 = .ok (.return_, 1) := by decide +kernel
theorem dX12_nears_30 : decode cX12_nears 30 = .ok (.aload_n 0, 1) := by decide +kernel
theorem dX12_nears_31 : decode cX12_nears 31 = .ok (.iconst 0, 1) := by decide +kernel
theorem dX12_nears_32 : decode cX12_nears 32 = .ok (.putfield 384, 3) := by decide +kernel
theorem dX12_nears_35 : decode cX12_nears 35 = .ok (.aload_n 0, 1) := by decide +kernel
theorem dX12_nears_36 : decode cX12_nears 36 = .ok (.lload_n 2, 1) := by decide +kernel
theorem dX12_nears_37 : decode cX12_nears 37 = .ok (.lload 4, 2) := by decide +kernel
theorem dX12_nears_39 : decode cX12_nears 39 = .ok (.lload 6, 2) := by decide +kernel
theorem dX12_nears_41 : decode cX12_nears 41 = .ok (.lload 8, 2) := by decide +kernel
theorem dX12_nears_43 : decode cX12_nears 43 = .ok (.invokevirtual 408, 3) := by decide +kernel
theorem dX12_nears_46 : decode cX12_nears 46 = .ok (.aload_n 0, 1) := by decide +kernel
theorem dX12_nears_47 : decode cX12_nears 47 = .ok (.getfield 384, 3) := by decide +kernel
theorem dX12_nears_50 : decode cX12_nears 50 = .ok (.ifCond .eq 4, 3) := by decide +kernel
theorem dX12_nears_53 : decode cX12_nears 53 = .ok (.return_, 1) := by decide +kernel
theorem dX12_nears_54 : decode cX12_nears 54 = .ok (.aload_n 0, 1) := by decide +kernel
theorem dX12_nears_55 : decode cX12_nears 55 = .ok (.getfield 387, 3) := by decide +kernel
theorem dX12_nears_58 : decode cX12_nears 58 = .ok (.invokestatic 380, 3) := by decide +kernel
theorem dX12_nears_61 : decode cX12_nears 61 = .ok (.lstore 10, 2) := by decide +kernel
theorem dX12_nears_63 : decode cX12_nears 63 = .ok (.aload_n 0, 1) := by decide +kernel
theorem dX12_nears_64 : decode cX12_nears 64 = .ok (.getfield 412, 3) := by decide +kernel
theorem dX12_nears_67 : decode cX12_nears 67 = .ok (.ifCond .eq 24, 3) := by decide +kernel
theorem dX12_nears_70 : decode cX12_nears 70 = .ok (.lload 10, 2) := by decide +kernel
theorem dX12_nears_72 : decode cX12_nears 72 = .ok (.aload_n 0, 1) := by decide +kernel
theorem dX12_nears_73 : decode cX12_nears 73 = .ok (.getfield 415, 3) := by decide +kernel
theorem dX12_nears_76 : decode cX12_nears 76 = .ok (.lmul, 1) := by decide +kernel
theorem dX12_nears_77 : decode cX12_nears 77 = .ok (.aload_n 0, 1) := by decide +kernel
theorem dX12_nears_78 : decode cX12_nears 78 = .ok (.getfield 418, 3) := by decide +kernel
theorem dX12_nears_81 : decode cX12_nears 81 = .ok (.aload_n 0, 1) := by decide +kernel
theorem dX12_nears_82 : decode cX12_nears 82 = .ok (.getfield 391, 3) := by decide +kernel
theorem dX12_nears_85 : decode cX12_nears 85 = .ok (.lmul, 1) := by decide +kernel
theorem dX12_nears_86 : decode cX12_nears 86 = .ok (.lcmp, 1) := by decide +kernel
theorem dX12_nears_87 : decode cX12_nears 87 = .ok (.ifCond .lt 4, 3) := by decide +kernel
theorem dX12_nears_90 : decode cX12_nears 90 = .ok (.return_, 1) := by decide +kernel
theorem dX12_nears_91 : decode cX12_nears 91 = .ok (.aload_n 0, 1) := by decide +kernel
theorem dX12_nears_92 : decode cX12_nears 92 = .ok (.iconst 1, 1) := by decide +kernel
theorem dX12_nears_93 : decode cX12_nears 93 = .ok (.putfield 412, 3) := by decide +kernel
theorem dX12_nears_96 : decode cX12_nears 96 = .ok (.aload_n 0, 1) := by decide +kernel
theorem dX12_nears_97 : decode cX12_nears 97 = .ok (.lload 10, 2) := by decide +kernel
theorem dX12_nears_99 : decode cX12_nears 99 = .ok (.putfield 418, 3) := by decide +kernel
theorem dX12_nears_102 : decode cX12_nears 102 = .ok (.aload_n 0, 1) := by decide +kernel
theorem dX12_nears_103 : decode cX12_nears 103 = .ok (.aload_n 0, 1) := by decide +kernel
theorem dX12_nears_104 : decode cX12_nears 104 = .ok (.getfield 391, 3) := by decide +kernel
theorem dX12_nears_107 : decode cX12_nears 107 = .ok (.putfield 415, 3) := by decide +kernel
theorem dX12_nears_110 : decode cX12_nears 110 = .ok (.return_, 1) := by decide +kernel
def v_q_lays0 : List Cond := .code yX12_lays cX12_lays 10 none :: ([.fieldLink RX12 139 "SlopeRunnerModel" "laid" "[I", .fieldLink RX12 124 "SlopeRunnerModel" "valueAbove" "[J", .fieldLink RX12 127 "SlopeRunnerModel" "valueBelow" "[J", .fieldLink RX12 130 "SlopeRunnerModel" "op" "[I", .fieldLink RX12 133 "SlopeRunnerModel" "first" "[I", .fieldLink RX12 136 "SlopeRunnerModel" "second" "[I"] ++ wsX120)
set_option maxHeartbeats 4000000 in
set_option maxRecDepth 100000 in
theorem q_lays0 (l : Launch) (D : va_G) (y : Nat → ClassId) (sz : Nat) (ad : Nat → Nat) (zw : Nat → Nat → Int32) (σ : OS) (a b : Int64) (wh x z : Int32) (ha0 : -1000000000 ≤ a.toInt) (ha1 : a.toInt ≤ 1000000000) (hb0 : 0 ≤ b.toInt) (hb1 : b.toInt ≤ 1000000000) (hop : opc (σ.2.2.1 59) (σ.2.2.1 60) (σ.2.2.1 61)) (hwh : wh.toInt ≠ 0 → 0 ≤ x.toInt ∧ x.toInt ≤ 1759 ∧ 0 ≤ z.toInt ∧ z.toInt ≤ 1759) (hl0 : 0 ≤ (σ.2.2.1 62 0).toInt) (hl1 : (σ.2.2.1 62 0).toInt < 1760) (hB57 : bJ (σ.2.2.2 57) (-1000000000) 1000000000) (hB58 : bJ (σ.2.2.2 58) 0 1000000000) (hB62 : bI (σ.2.2.1 62) 0 1760) : Met l yX12_lays v_q_lays0 ({ frames := 0, cells := 0, slots := 0, locals := 0 } : Room) (va_Pc [.ref (ad 1), .int 0, .long a, .long b, .int wh, .int x, .int z] (xPre D (xT y) (mwd y ad zw σ) sz)) (va_Qv (fun (u : (Nat → Int64) × (Nat → Int64) × (Nat → Int32) × (Nat → Int32) × (Nat → Int32) × (Nat → Int32)) => (opc u.2.2.1 u.2.2.2.1 u.2.2.2.2.1 ∧ (u.2.2.2.2.2 0).toInt = (σ.2.2.1 62 0).toInt + 1 ∧ u.2.2.2.2.2 1 = σ.2.2.1 62 1) ∧ bJ u.1 (-1000000000) 1000000000 ∧ bJ u.2.1 0 1000000000 ∧ bI u.2.2.2.2.2 0 1760) (fun (u : (Nat → Int64) × (Nat → Int64) × (Nat → Int32) × (Nat → Int32) × (Nat → Int32) × (Nat → Int32)) => xB D (xT y) (va_A (mwd y ad zw σ) sz) (mwd y ad zw (tI (tI (tI (tI (tJ (tJ σ 57 u.1) 58 u.2.1) 59 u.2.2.1) 60 u.2.2.2.1) 61 u.2.2.2.2.1) 62 u.2.2.2.2.2))) (va_A (mwd y ad zw σ) sz)) 0 0 (va_A (mwd y ad zw σ) sz) := by
  refine x_metv (cc := cX12_lays) (maxL := 10) (by decide) rfl (Nat.le_of_ble_eq_true rfl) ?_
  intro p e s m below meth c A H locs Q hx hb hml hown hts hr hlocks hmn hA hP hK hD hS ls hl hQ
  have hl : lv_has ls 10 [(0, .ref (ad 1)), (1, .int 0), (2, .long a), (4, .long b), (6, .int wh), (7, .int x), (8, .int z)] := hl
  have fl139 := hts (.fieldLink RX12 139 "SlopeRunnerModel" "laid" "[I") (List.mem_of_getElem? (i := 1) rfl)
  have inX12 : ∀ w ∈ wsX120, w ∈ v_q_lays0 := (fun w h => List.mem_cons_of_mem _ (List.mem_append_right _ h))
  have kk_0 : (0 : Int32).toInt = 0 := rfl
  have fl124 := hts (.fieldLink RX12 124 "SlopeRunnerModel" "valueAbove" "[J") (List.mem_of_getElem? (i := 2) rfl)
  have fl127 := hts (.fieldLink RX12 127 "SlopeRunnerModel" "valueBelow" "[J") (List.mem_of_getElem? (i := 3) rfl)
  have fl130 := hts (.fieldLink RX12 130 "SlopeRunnerModel" "op" "[I") (List.mem_of_getElem? (i := 4) rfl)
  have fl133 := hts (.fieldLink RX12 133 "SlopeRunnerModel" "first" "[I") (List.mem_of_getElem? (i := 5) rfl)
  have fl136 := hts (.fieldLink RX12 136 "SlopeRunnerModel" "second" "[I") (List.mem_of_getElem? (i := 6) rfl)
  have kk_1 : (1 : Int32).toInt = 1 := rfl
  refine lv_sipush (v := 1760) hx hb dX12_lays_0 (by decide) ?_
  refine lv_iload_n hx hb dX12_lays_3 rfl (lv_at hl 1 rfl) ?_
  refine lv_imul hx hb dX12_lays_4 ?_
  refine lv_topi (fun i_1 ei_1 => ?_)
  obtain rfl : i_1 = 0 := ei_1.trans (by decide)
  refine lv_aload_n hx hb dX12_lays_5 rfl (lv_at hl 0 rfl) ?_
  refine va_get (D := D) (ci := 11) (v := .ref (ad 62)) (C := RX12) (T := TX12) (N := 85) hx hb hts inX12 hown hK hP 0 mwd_o0 rfl 62 (by decide) fl139 (fun _ h9 => h9) rfl dX12_lays_6 ?_
  refine lv_iload_n hx hb dX12_lays_9 rfl (lv_at hl 1 rfl) ?_
  refine va_iald hx hb hK hP 42 2 mwd_a42 rfl (x_in (by decide) (by decide)) dX12_lays_10 ?_
  refine lv_topi (fun i_2 ei_2 => ?_)
  have ei_2 : i_2 = (σ.2.2.1 62) (Int32.toNatClampNeg 0) := ei_2
  have gi_2 : i_2 = σ.2.2.1 62 0 := ei_2
  rw [← gi_2] at hl0 hl1
  have bi_2 := b_at hB62 ei_2
  refine lv_iadd hx hb dX12_lays_11 ?_
  refine lv_topi (fun i_3 ei_3 => ?_)
  have vi_3 : i_3.toInt = 0 + i_2.toInt := by have h9 := x_add ei_3 (by omega) (by omega); omega
  refine lv_istore (lv' := [(9, .int i_3), (0, .ref (ad 1)), (1, .int 0), (2, .long a), (4, .long b), (6, .int wh), (7, .int x), (8, .int z)]) hx hb dX12_lays_12 hl (by decide) rfl (fun ls hl => ?_)
  refine lv_aload_n hx hb dX12_lays_14 rfl (lv_at hl 1 rfl) ?_
  refine va_get (D := D) (ci := 11) (v := .ref (ad 57)) (C := RX12) (T := TX12) (N := 85) hx hb hts inX12 hown hK hP 0 mwd_o0 rfl 57 (by decide) fl124 (fun _ h9 => h9) rfl dX12_lays_15 ?_
  refine lv_iload hx hb dX12_lays_18 (lv_at hl 0 rfl) ?_
  refine lv_lload_n hx hb dX12_lays_20 rfl (lv_at hl 3 rfl) ?_
  refine va_last hx hb hK hP hD hS 37 3 mwd_a37 rfl (x_in (by omega) (by omega)) dX12_lays_21 (fun H locs hP hD hS => ?_)
  obtain ⟨f_4, ef_4⟩ : ∃ z9 : Nat → Int64, z9 = (vp_updL (σ.2.2.2 57) (Int32.toNatClampNeg i_3) a) := ⟨_, rfl⟩
  have hP : va_P D vwCl (mwd y ad zw (tJ σ 57 f_4)) H := by rw [ef_4]; exact x_trP hP mwd_s37
  have hD : va_D A (mwd y ad zw (tJ σ 57 f_4)) := by rw [ef_4]; exact x_trD hD mwd_s37
  have hvf_4 : bJ f_4 (-1000000000) 1000000000 := by rw [ef_4]; exact b_updJ hB57 (by omega) (by omega)
  refine lv_aload_n hx hb dX12_lays_22 rfl (lv_at hl 1 rfl) ?_
  refine va_get (D := D) (ci := 11) (v := .ref (ad 58)) (C := RX12) (T := TX12) (N := 85) hx hb hts inX12 hown hK hP 0 mwd_o0 rfl 58 (by decide) fl127 (fun _ h9 => h9) rfl dX12_lays_23 ?_
  refine lv_iload hx hb dX12_lays_26 (lv_at hl 0 rfl) ?_
  refine lv_lload hx hb dX12_lays_28 (lv_at hl 4 rfl) ?_
  refine va_last hx hb hK hP hD hS 38 3 mwd_a38 rfl (x_in (by omega) (by omega)) dX12_lays_30 (fun H locs hP hD hS => ?_)
  obtain ⟨f_5, ef_5⟩ : ∃ z9 : Nat → Int64, z9 = (vp_updL (σ.2.2.2 58) (Int32.toNatClampNeg i_3) b) := ⟨_, rfl⟩
  have hP : va_P D vwCl (mwd y ad zw (tJ (tJ σ 57 f_4) 58 f_5)) H := by rw [ef_5]; exact x_trP hP mwd_s38
  have hD : va_D A (mwd y ad zw (tJ (tJ σ 57 f_4) 58 f_5)) := by rw [ef_5]; exact x_trD hD mwd_s38
  have hvf_5 : bJ f_5 0 1000000000 := by rw [ef_5]; exact b_updJ hB58 (by omega) (by omega)
  refine lv_aload_n hx hb dX12_lays_31 rfl (lv_at hl 1 rfl) ?_
  refine va_get (D := D) (ci := 11) (v := .ref (ad 59)) (C := RX12) (T := TX12) (N := 85) hx hb hts inX12 hown hK hP 0 mwd_o0 rfl 59 (by decide) fl130 (fun _ h9 => h9) rfl dX12_lays_32 ?_
  refine lv_iload hx hb dX12_lays_35 (lv_at hl 0 rfl) ?_
  refine lv_iload hx hb dX12_lays_37 (lv_at hl 5 rfl) ?_
  refine va_iast hx hb hK hP hD hS 39 2 mwd_a39 rfl (x_in (by omega) (by omega)) dX12_lays_39 (fun H locs hP hD hS => ?_)
  obtain ⟨f_6, ef_6⟩ : ∃ z9 : Nat → Int32, z9 = (upd (σ.2.2.1 59) (Int32.toNatClampNeg i_3) wh) := ⟨_, rfl⟩
  have hP : va_P D vwCl (mwd y ad zw (tI (tJ (tJ σ 57 f_4) 58 f_5) 59 f_6)) H := by rw [ef_6]; exact x_trP hP mwd_s39
  have hD : va_D A (mwd y ad zw (tI (tJ (tJ σ 57 f_4) 58 f_5) 59 f_6)) := by rw [ef_6]; exact x_trD hD mwd_s39
  refine lv_aload_n hx hb dX12_lays_40 rfl (lv_at hl 1 rfl) ?_
  refine va_get (D := D) (ci := 11) (v := .ref (ad 60)) (C := RX12) (T := TX12) (N := 85) hx hb hts inX12 hown hK hP 0 mwd_o0 rfl 60 (by decide) fl133 (fun _ h9 => h9) rfl dX12_lays_41 ?_
  refine lv_iload hx hb dX12_lays_44 (lv_at hl 0 rfl) ?_
  refine lv_iload hx hb dX12_lays_46 (lv_at hl 6 rfl) ?_
  refine va_iast hx hb hK hP hD hS 40 2 mwd_a40 rfl (x_in (by omega) (by omega)) dX12_lays_48 (fun H locs hP hD hS => ?_)
  obtain ⟨f_7, ef_7⟩ : ∃ z9 : Nat → Int32, z9 = (upd (σ.2.2.1 60) (Int32.toNatClampNeg i_3) x) := ⟨_, rfl⟩
  have hP : va_P D vwCl (mwd y ad zw (tI (tI (tJ (tJ σ 57 f_4) 58 f_5) 59 f_6) 60 f_7)) H := by rw [ef_7]; exact x_trP hP mwd_s40
  have hD : va_D A (mwd y ad zw (tI (tI (tJ (tJ σ 57 f_4) 58 f_5) 59 f_6) 60 f_7)) := by rw [ef_7]; exact x_trD hD mwd_s40
  refine lv_aload_n hx hb dX12_lays_49 rfl (lv_at hl 1 rfl) ?_
  refine va_get (D := D) (ci := 11) (v := .ref (ad 61)) (C := RX12) (T := TX12) (N := 85) hx hb hts inX12 hown hK hP 0 mwd_o0 rfl 61 (by decide) fl136 (fun _ h9 => h9) rfl dX12_lays_50 ?_
  refine lv_iload hx hb dX12_lays_53 (lv_at hl 0 rfl) ?_
  refine lv_iload hx hb dX12_lays_55 (lv_at hl 7 rfl) ?_
  refine va_iast hx hb hK hP hD hS 41 2 mwd_a41 rfl (x_in (by omega) (by omega)) dX12_lays_57 (fun H locs hP hD hS => ?_)
  obtain ⟨f_8, ef_8⟩ : ∃ z9 : Nat → Int32, z9 = (upd (σ.2.2.1 61) (Int32.toNatClampNeg i_3) z) := ⟨_, rfl⟩
  have hP : va_P D vwCl (mwd y ad zw (tI (tI (tI (tJ (tJ σ 57 f_4) 58 f_5) 59 f_6) 60 f_7) 61 f_8)) H := by rw [ef_8]; exact x_trP hP mwd_s41
  have hD : va_D A (mwd y ad zw (tI (tI (tI (tJ (tJ σ 57 f_4) 58 f_5) 59 f_6) 60 f_7) 61 f_8)) := by rw [ef_8]; exact x_trD hD mwd_s41
  refine lv_aload_n hx hb dX12_lays_58 rfl (lv_at hl 1 rfl) ?_
  refine va_get (D := D) (ci := 11) (v := .ref (ad 62)) (C := RX12) (T := TX12) (N := 85) hx hb hts inX12 hown hK hP 0 mwd_o0 rfl 62 (by decide) fl139 (fun _ h9 => h9) rfl dX12_lays_59 ?_
  refine lv_iload_n hx hb dX12_lays_62 rfl (lv_at hl 2 rfl) ?_
  refine lv_dup2_11 hx hb dX12_lays_63 rfl rfl ?_
  refine va_iald hx hb hK hP 42 2 mwd_a42 rfl (x_in (by decide) (by decide)) dX12_lays_64 ?_
  refine lv_topi (fun i_9 ei_9 => ?_)
  have ei_9 : i_9 = (σ.2.2.1 62) (Int32.toNatClampNeg 0) := ei_9
  have gi_9 : i_9.toInt = i_2.toInt := by rw [ei_9.trans ei_2.symm]
  have bi_9 := b_at hB62 ei_9
  refine lv_iconst (v := 1) hx hb dX12_lays_65 (by decide) ?_
  refine lv_iadd hx hb dX12_lays_66 ?_
  refine lv_topi (fun i_10 ei_10 => ?_)
  have vi_10 : i_10.toInt = i_9.toInt + 1 := by have h9 := x_add ei_10 (by omega) (by omega); omega
  refine va_iast hx hb hK hP hD hS 42 2 mwd_a42 rfl (x_in (by decide) (by decide)) dX12_lays_67 (fun H locs hP hD hS => ?_)
  obtain ⟨f_11, ef_11⟩ : ∃ z9 : Nat → Int32, z9 = (upd (σ.2.2.1 62) (Int32.toNatClampNeg 0) i_10) := ⟨_, rfl⟩
  have hP : va_P D vwCl (mwd y ad zw (tI (tI (tI (tI (tJ (tJ σ 57 f_4) 58 f_5) 59 f_6) 60 f_7) 61 f_8) 62 f_11)) H := by rw [ef_11]; exact x_trP hP mwd_s42
  have hD : va_D A (mwd y ad zw (tI (tI (tI (tI (tJ (tJ σ 57 f_4) 58 f_5) 59 f_6) 60 f_7) 61 f_8) 62 f_11)) := by rw [ef_11]; exact x_trD hD mwd_s42
  have hvf_11 : bI f_11 0 1760 := by rw [ef_11]; exact b_upd hB62 (by omega) (by omega)
  exact x_vretW (u := (f_4, f_5, f_6, f_7, f_8, f_11)) hx hb hr hQ (by (try dsimp only); exact ⟨⟨by rw [ef_6, ef_7, ef_8]; exact opc_upd hop _ hwh, by rw [ef_11, ← gi_2]; show (upd _ 0 _ 0).toInt = _; rw [x_upd_same]; omega, by rw [ef_11]; exact x_upd_ne _ _ (by decide)⟩, hvf_4, hvf_5, hvf_11⟩) hP hD hK hS dX12_lays_68 hlocks

def v_q_lays1 : List Cond := .code yX12_lays cX12_lays 10 none :: ([.fieldLink RX12 139 "SlopeRunnerModel" "laid" "[I", .fieldLink RX12 124 "SlopeRunnerModel" "valueAbove" "[J", .fieldLink RX12 127 "SlopeRunnerModel" "valueBelow" "[J", .fieldLink RX12 130 "SlopeRunnerModel" "op" "[I", .fieldLink RX12 133 "SlopeRunnerModel" "first" "[I", .fieldLink RX12 136 "SlopeRunnerModel" "second" "[I"] ++ wsX120)
set_option maxHeartbeats 4000000 in
set_option maxRecDepth 100000 in
theorem q_lays1 (l : Launch) (D : va_G) (y : Nat → ClassId) (sz : Nat) (ad : Nat → Nat) (zw : Nat → Nat → Int32) (σ : OS) (a b : Int64) (wh x z : Int32) (ha0 : -1000000000 ≤ a.toInt) (ha1 : a.toInt ≤ 1000000000) (hb0 : 0 ≤ b.toInt) (hb1 : b.toInt ≤ 1000000000) (hop : opc (σ.2.2.1 59) (σ.2.2.1 60) (σ.2.2.1 61)) (hwh : wh.toInt ≠ 0 → 0 ≤ x.toInt ∧ x.toInt ≤ 1759 ∧ 0 ≤ z.toInt ∧ z.toInt ≤ 1759) (hl0 : 0 ≤ (σ.2.2.1 62 1).toInt) (hl1 : (σ.2.2.1 62 1).toInt < 1760) (hB57 : bJ (σ.2.2.2 57) (-1000000000) 1000000000) (hB58 : bJ (σ.2.2.2 58) 0 1000000000) (hB62 : bI (σ.2.2.1 62) 0 1760) : Met l yX12_lays v_q_lays1 ({ frames := 0, cells := 0, slots := 0, locals := 0 } : Room) (va_Pc [.ref (ad 1), .int 1, .long a, .long b, .int wh, .int x, .int z] (xPre D (xT y) (mwd y ad zw σ) sz)) (va_Qv (fun (u : (Nat → Int64) × (Nat → Int64) × (Nat → Int32) × (Nat → Int32) × (Nat → Int32) × (Nat → Int32)) => (opc u.2.2.1 u.2.2.2.1 u.2.2.2.2.1 ∧ (u.2.2.2.2.2 1).toInt = (σ.2.2.1 62 1).toInt + 1 ∧ u.2.2.2.2.2 0 = σ.2.2.1 62 0) ∧ bJ u.1 (-1000000000) 1000000000 ∧ bJ u.2.1 0 1000000000 ∧ bI u.2.2.2.2.2 0 1760) (fun (u : (Nat → Int64) × (Nat → Int64) × (Nat → Int32) × (Nat → Int32) × (Nat → Int32) × (Nat → Int32)) => xB D (xT y) (va_A (mwd y ad zw σ) sz) (mwd y ad zw (tI (tI (tI (tI (tJ (tJ σ 57 u.1) 58 u.2.1) 59 u.2.2.1) 60 u.2.2.2.1) 61 u.2.2.2.2.1) 62 u.2.2.2.2.2))) (va_A (mwd y ad zw σ) sz)) 0 0 (va_A (mwd y ad zw σ) sz) := by
  refine x_metv (cc := cX12_lays) (maxL := 10) (by decide) rfl (Nat.le_of_ble_eq_true rfl) ?_
  intro p e s m below meth c A H locs Q hx hb hml hown hts hr hlocks hmn hA hP hK hD hS ls hl hQ
  have hl : lv_has ls 10 [(0, .ref (ad 1)), (1, .int 1), (2, .long a), (4, .long b), (6, .int wh), (7, .int x), (8, .int z)] := hl
  have fl139 := hts (.fieldLink RX12 139 "SlopeRunnerModel" "laid" "[I") (List.mem_of_getElem? (i := 1) rfl)
  have inX12 : ∀ w ∈ wsX120, w ∈ v_q_lays1 := (fun w h => List.mem_cons_of_mem _ (List.mem_append_right _ h))
  have kk_1760 : (1760 : Int32).toInt = 1760 := rfl
  have fl124 := hts (.fieldLink RX12 124 "SlopeRunnerModel" "valueAbove" "[J") (List.mem_of_getElem? (i := 2) rfl)
  have fl127 := hts (.fieldLink RX12 127 "SlopeRunnerModel" "valueBelow" "[J") (List.mem_of_getElem? (i := 3) rfl)
  have fl130 := hts (.fieldLink RX12 130 "SlopeRunnerModel" "op" "[I") (List.mem_of_getElem? (i := 4) rfl)
  have fl133 := hts (.fieldLink RX12 133 "SlopeRunnerModel" "first" "[I") (List.mem_of_getElem? (i := 5) rfl)
  have fl136 := hts (.fieldLink RX12 136 "SlopeRunnerModel" "second" "[I") (List.mem_of_getElem? (i := 6) rfl)
  have kk_1 : (1 : Int32).toInt = 1 := rfl
  refine lv_sipush (v := 1760) hx hb dX12_lays_0 (by decide) ?_
  refine lv_iload_n hx hb dX12_lays_3 rfl (lv_at hl 1 rfl) ?_
  refine lv_imul hx hb dX12_lays_4 ?_
  refine lv_topi (fun i_1 ei_1 => ?_)
  obtain rfl : i_1 = 1760 := ei_1.trans (by decide)
  refine lv_aload_n hx hb dX12_lays_5 rfl (lv_at hl 0 rfl) ?_
  refine va_get (D := D) (ci := 11) (v := .ref (ad 62)) (C := RX12) (T := TX12) (N := 85) hx hb hts inX12 hown hK hP 0 mwd_o0 rfl 62 (by decide) fl139 (fun _ h9 => h9) rfl dX12_lays_6 ?_
  refine lv_iload_n hx hb dX12_lays_9 rfl (lv_at hl 1 rfl) ?_
  refine va_iald hx hb hK hP 42 2 mwd_a42 rfl (x_in (by decide) (by decide)) dX12_lays_10 ?_
  refine lv_topi (fun i_2 ei_2 => ?_)
  have ei_2 : i_2 = (σ.2.2.1 62) (Int32.toNatClampNeg 1) := ei_2
  have gi_2 : i_2 = σ.2.2.1 62 1 := ei_2
  rw [← gi_2] at hl0 hl1
  have bi_2 := b_at hB62 ei_2
  refine lv_iadd hx hb dX12_lays_11 ?_
  refine lv_topi (fun i_3 ei_3 => ?_)
  have vi_3 : i_3.toInt = 1760 + i_2.toInt := by have h9 := x_add ei_3 (by omega) (by omega); omega
  refine lv_istore (lv' := [(9, .int i_3), (0, .ref (ad 1)), (1, .int 1), (2, .long a), (4, .long b), (6, .int wh), (7, .int x), (8, .int z)]) hx hb dX12_lays_12 hl (by decide) rfl (fun ls hl => ?_)
  refine lv_aload_n hx hb dX12_lays_14 rfl (lv_at hl 1 rfl) ?_
  refine va_get (D := D) (ci := 11) (v := .ref (ad 57)) (C := RX12) (T := TX12) (N := 85) hx hb hts inX12 hown hK hP 0 mwd_o0 rfl 57 (by decide) fl124 (fun _ h9 => h9) rfl dX12_lays_15 ?_
  refine lv_iload hx hb dX12_lays_18 (lv_at hl 0 rfl) ?_
  refine lv_lload_n hx hb dX12_lays_20 rfl (lv_at hl 3 rfl) ?_
  refine va_last hx hb hK hP hD hS 37 3 mwd_a37 rfl (x_in (by omega) (by omega)) dX12_lays_21 (fun H locs hP hD hS => ?_)
  obtain ⟨f_4, ef_4⟩ : ∃ z9 : Nat → Int64, z9 = (vp_updL (σ.2.2.2 57) (Int32.toNatClampNeg i_3) a) := ⟨_, rfl⟩
  have hP : va_P D vwCl (mwd y ad zw (tJ σ 57 f_4)) H := by rw [ef_4]; exact x_trP hP mwd_s37
  have hD : va_D A (mwd y ad zw (tJ σ 57 f_4)) := by rw [ef_4]; exact x_trD hD mwd_s37
  have hvf_4 : bJ f_4 (-1000000000) 1000000000 := by rw [ef_4]; exact b_updJ hB57 (by omega) (by omega)
  refine lv_aload_n hx hb dX12_lays_22 rfl (lv_at hl 1 rfl) ?_
  refine va_get (D := D) (ci := 11) (v := .ref (ad 58)) (C := RX12) (T := TX12) (N := 85) hx hb hts inX12 hown hK hP 0 mwd_o0 rfl 58 (by decide) fl127 (fun _ h9 => h9) rfl dX12_lays_23 ?_
  refine lv_iload hx hb dX12_lays_26 (lv_at hl 0 rfl) ?_
  refine lv_lload hx hb dX12_lays_28 (lv_at hl 4 rfl) ?_
  refine va_last hx hb hK hP hD hS 38 3 mwd_a38 rfl (x_in (by omega) (by omega)) dX12_lays_30 (fun H locs hP hD hS => ?_)
  obtain ⟨f_5, ef_5⟩ : ∃ z9 : Nat → Int64, z9 = (vp_updL (σ.2.2.2 58) (Int32.toNatClampNeg i_3) b) := ⟨_, rfl⟩
  have hP : va_P D vwCl (mwd y ad zw (tJ (tJ σ 57 f_4) 58 f_5)) H := by rw [ef_5]; exact x_trP hP mwd_s38
  have hD : va_D A (mwd y ad zw (tJ (tJ σ 57 f_4) 58 f_5)) := by rw [ef_5]; exact x_trD hD mwd_s38
  have hvf_5 : bJ f_5 0 1000000000 := by rw [ef_5]; exact b_updJ hB58 (by omega) (by omega)
  refine lv_aload_n hx hb dX12_lays_31 rfl (lv_at hl 1 rfl) ?_
  refine va_get (D := D) (ci := 11) (v := .ref (ad 59)) (C := RX12) (T := TX12) (N := 85) hx hb hts inX12 hown hK hP 0 mwd_o0 rfl 59 (by decide) fl130 (fun _ h9 => h9) rfl dX12_lays_32 ?_
  refine lv_iload hx hb dX12_lays_35 (lv_at hl 0 rfl) ?_
  refine lv_iload hx hb dX12_lays_37 (lv_at hl 5 rfl) ?_
  refine va_iast hx hb hK hP hD hS 39 2 mwd_a39 rfl (x_in (by omega) (by omega)) dX12_lays_39 (fun H locs hP hD hS => ?_)
  obtain ⟨f_6, ef_6⟩ : ∃ z9 : Nat → Int32, z9 = (upd (σ.2.2.1 59) (Int32.toNatClampNeg i_3) wh) := ⟨_, rfl⟩
  have hP : va_P D vwCl (mwd y ad zw (tI (tJ (tJ σ 57 f_4) 58 f_5) 59 f_6)) H := by rw [ef_6]; exact x_trP hP mwd_s39
  have hD : va_D A (mwd y ad zw (tI (tJ (tJ σ 57 f_4) 58 f_5) 59 f_6)) := by rw [ef_6]; exact x_trD hD mwd_s39
  refine lv_aload_n hx hb dX12_lays_40 rfl (lv_at hl 1 rfl) ?_
  refine va_get (D := D) (ci := 11) (v := .ref (ad 60)) (C := RX12) (T := TX12) (N := 85) hx hb hts inX12 hown hK hP 0 mwd_o0 rfl 60 (by decide) fl133 (fun _ h9 => h9) rfl dX12_lays_41 ?_
  refine lv_iload hx hb dX12_lays_44 (lv_at hl 0 rfl) ?_
  refine lv_iload hx hb dX12_lays_46 (lv_at hl 6 rfl) ?_
  refine va_iast hx hb hK hP hD hS 40 2 mwd_a40 rfl (x_in (by omega) (by omega)) dX12_lays_48 (fun H locs hP hD hS => ?_)
  obtain ⟨f_7, ef_7⟩ : ∃ z9 : Nat → Int32, z9 = (upd (σ.2.2.1 60) (Int32.toNatClampNeg i_3) x) := ⟨_, rfl⟩
  have hP : va_P D vwCl (mwd y ad zw (tI (tI (tJ (tJ σ 57 f_4) 58 f_5) 59 f_6) 60 f_7)) H := by rw [ef_7]; exact x_trP hP mwd_s40
  have hD : va_D A (mwd y ad zw (tI (tI (tJ (tJ σ 57 f_4) 58 f_5) 59 f_6) 60 f_7)) := by rw [ef_7]; exact x_trD hD mwd_s40
  refine lv_aload_n hx hb dX12_lays_49 rfl (lv_at hl 1 rfl) ?_
  refine va_get (D := D) (ci := 11) (v := .ref (ad 61)) (C := RX12) (T := TX12) (N := 85) hx hb hts inX12 hown hK hP 0 mwd_o0 rfl 61 (by decide) fl136 (fun _ h9 => h9) rfl dX12_lays_50 ?_
  refine lv_iload hx hb dX12_lays_53 (lv_at hl 0 rfl) ?_
  refine lv_iload hx hb dX12_lays_55 (lv_at hl 7 rfl) ?_
  refine va_iast hx hb hK hP hD hS 41 2 mwd_a41 rfl (x_in (by omega) (by omega)) dX12_lays_57 (fun H locs hP hD hS => ?_)
  obtain ⟨f_8, ef_8⟩ : ∃ z9 : Nat → Int32, z9 = (upd (σ.2.2.1 61) (Int32.toNatClampNeg i_3) z) := ⟨_, rfl⟩
  have hP : va_P D vwCl (mwd y ad zw (tI (tI (tI (tJ (tJ σ 57 f_4) 58 f_5) 59 f_6) 60 f_7) 61 f_8)) H := by rw [ef_8]; exact x_trP hP mwd_s41
  have hD : va_D A (mwd y ad zw (tI (tI (tI (tJ (tJ σ 57 f_4) 58 f_5) 59 f_6) 60 f_7) 61 f_8)) := by rw [ef_8]; exact x_trD hD mwd_s41
  refine lv_aload_n hx hb dX12_lays_58 rfl (lv_at hl 1 rfl) ?_
  refine va_get (D := D) (ci := 11) (v := .ref (ad 62)) (C := RX12) (T := TX12) (N := 85) hx hb hts inX12 hown hK hP 0 mwd_o0 rfl 62 (by decide) fl139 (fun _ h9 => h9) rfl dX12_lays_59 ?_
  refine lv_iload_n hx hb dX12_lays_62 rfl (lv_at hl 2 rfl) ?_
  refine lv_dup2_11 hx hb dX12_lays_63 rfl rfl ?_
  refine va_iald hx hb hK hP 42 2 mwd_a42 rfl (x_in (by decide) (by decide)) dX12_lays_64 ?_
  refine lv_topi (fun i_9 ei_9 => ?_)
  have ei_9 : i_9 = (σ.2.2.1 62) (Int32.toNatClampNeg 1) := ei_9
  have gi_9 : i_9.toInt = i_2.toInt := by rw [ei_9.trans ei_2.symm]
  have bi_9 := b_at hB62 ei_9
  refine lv_iconst (v := 1) hx hb dX12_lays_65 (by decide) ?_
  refine lv_iadd hx hb dX12_lays_66 ?_
  refine lv_topi (fun i_10 ei_10 => ?_)
  have vi_10 : i_10.toInt = i_9.toInt + 1 := by have h9 := x_add ei_10 (by omega) (by omega); omega
  refine va_iast hx hb hK hP hD hS 42 2 mwd_a42 rfl (x_in (by decide) (by decide)) dX12_lays_67 (fun H locs hP hD hS => ?_)
  obtain ⟨f_11, ef_11⟩ : ∃ z9 : Nat → Int32, z9 = (upd (σ.2.2.1 62) (Int32.toNatClampNeg 1) i_10) := ⟨_, rfl⟩
  have hP : va_P D vwCl (mwd y ad zw (tI (tI (tI (tI (tJ (tJ σ 57 f_4) 58 f_5) 59 f_6) 60 f_7) 61 f_8) 62 f_11)) H := by rw [ef_11]; exact x_trP hP mwd_s42
  have hD : va_D A (mwd y ad zw (tI (tI (tI (tI (tJ (tJ σ 57 f_4) 58 f_5) 59 f_6) 60 f_7) 61 f_8) 62 f_11)) := by rw [ef_11]; exact x_trD hD mwd_s42
  have hvf_11 : bI f_11 0 1760 := by rw [ef_11]; exact b_upd hB62 (by omega) (by omega)
  exact x_vretW (u := (f_4, f_5, f_6, f_7, f_8, f_11)) hx hb hr hQ (by (try dsimp only); exact ⟨⟨by rw [ef_6, ef_7, ef_8]; exact opc_upd hop _ hwh, by rw [ef_11, ← gi_2]; show (upd _ 1 _ 1).toInt = _; rw [x_upd_same]; omega, by rw [ef_11]; exact x_upd_ne _ _ (by decide)⟩, hvf_4, hvf_5, hvf_11⟩) hP hD hK hS dX12_lays_68 hlocks

def v_q_nears0 : List Cond := .code yX12_nears cX12_nears 12 none :: ([.fieldLink RX12 384 "SlopeRunnerModel" "isStuck" "Z", .fieldLink RX12 387 "SlopeRunnerModel" "up" "J", .fieldLink RX12 412 "SlopeRunnerModel" "hasNear" "Z", .fieldLink RX12 418 "SlopeRunnerModel" "nearAbove" "J", .fieldLink RX12 391 "SlopeRunnerModel" "down" "J", .fieldLink RX12 415 "SlopeRunnerModel" "nearBelow" "J", .fieldLink RX12 151 "SlopeRunnerModel" "edges" "[I"] ++ ((wsV RX12 408 RX12 yX12_takesOff v_q_takesOff) ++ ((wsS RX12 380 yX12_size v_q_size) ++ wsX120)))
theorem g_q_nears0_0 : GoodIn v_q_nears0 (wsV RX12 408 RX12 yX12_takesOff v_q_takesOff) := goodIn_sub (fun w h => List.mem_cons_of_mem _ (List.mem_append_right _ (List.mem_append_left _ h))) (by decide +kernel)
theorem g_q_nears0_1 : GoodIn v_q_nears0 (wsS RX12 380 yX12_size v_q_size) := goodIn_sub (fun w h => List.mem_cons_of_mem _ (List.mem_append_right _ (List.mem_append_right _ (List.mem_append_left _ h)))) (by decide +kernel)
set_option maxHeartbeats 4000000 in
set_option maxRecDepth 100000 in
theorem q_nears0 (l : Launch) (D : va_G) (y : Nat → ClassId) (sz : Nat) (ad : Nat → Nat) (zw : Nat → Nat → Int32) (σ : OS) (a b g d : Int64) (ha0 : -1000000000 ≤ a.toInt) (ha1 : a.toInt ≤ 1000000000) (hb0 : 0 ≤ b.toInt) (hb1 : b.toInt ≤ 1000000000) (hg0 : -1000000000 ≤ g.toInt) (hg1 : g.toInt ≤ 1000000000) (hd0 : 0 ≤ d.toInt) (hd1 : d.toInt ≤ 1000000000) : Met l yX12_nears v_q_nears0 ({ frames := 4, cells := 0, slots := 0, locals := 108 } : Room) (va_Pc [.ref (ad 1), .int 0, .long a, .long b, .long g, .long d] (xPre D (xT y) (mwd y ad zw σ) sz)) (va_Qv (fun (u : (Nat → Int32) × Int32 × Int64 × Int64 × Int32 × Int64 × Int64) => True) (fun (u : (Nat → Int32) × Int32 × Int64 × Int64 × Int32 × Int64 × Int64) => xB D (xT y) (va_A (mwd y ad zw σ) sz) (mwd y ad zw (sJ (sJ (sI (sJ (sJ (sI (tI σ 66 u.1) 44 u.2.1) 42 u.2.2.1) 43 u.2.2.2.1) 68 u.2.2.2.2.1) 69 u.2.2.2.2.2.1) 70 u.2.2.2.2.2.2))) (va_A (mwd y ad zw σ) sz)) 0 0 (va_A (mwd y ad zw σ) sz) := by
  refine x_metv (cc := cX12_nears) (maxL := 12) (by decide) rfl (Nat.le_of_ble_eq_true rfl) ?_
  intro p e s m below meth c A H locs Q hx hb hml hown hts hr hlocks hmn hA hP hK hD hS ls hl hQ
  have hl : lv_has ls 12 [(0, .ref (ad 1)), (1, .int 0), (2, .long a), (4, .long b), (6, .long g), (8, .long d)] := hl
  have fl384 := hts (.fieldLink RX12 384 "SlopeRunnerModel" "isStuck" "Z") (List.mem_of_getElem? (i := 1) rfl)
  have inX12 : ∀ w ∈ wsX120, w ∈ v_q_nears0 := (fun w h => List.mem_cons_of_mem _ (List.mem_append_right _ (List.mem_append_right _ (List.mem_append_right _ h))))
  have kk_0 : (0 : Int32).toInt = 0 := rfl
  have fl387 := hts (.fieldLink RX12 387 "SlopeRunnerModel" "up" "J") (List.mem_of_getElem? (i := 2) rfl)
  have fl412 := hts (.fieldLink RX12 412 "SlopeRunnerModel" "hasNear" "Z") (List.mem_of_getElem? (i := 3) rfl)
  have fl418 := hts (.fieldLink RX12 418 "SlopeRunnerModel" "nearAbove" "J") (List.mem_of_getElem? (i := 4) rfl)
  have fl391 := hts (.fieldLink RX12 391 "SlopeRunnerModel" "down" "J") (List.mem_of_getElem? (i := 5) rfl)
  have fl415 := hts (.fieldLink RX12 415 "SlopeRunnerModel" "nearBelow" "J") (List.mem_of_getElem? (i := 6) rfl)
  have fl151 := hts (.fieldLink RX12 151 "SlopeRunnerModel" "edges" "[I") (List.mem_of_getElem? (i := 7) rfl)
  refine lv_lload_n hx hb dX12_nears_0 rfl (lv_at hl 2 rfl) ?_
  refine lv_lload hx hb dX12_nears_1 (lv_at hl 4 rfl) ?_
  refine W.lcmp hx hb dX12_nears_3 ?_
  refine lv_if_ne (tgt := 25) hx hb dX12_nears_4 (by decide) (fun c_1 => ?_) (fun c_1 => ?_)
  · have kc_1 : a.toInt ≠ g.toInt := by have h9 := x_tri a g; (try simp only [Int64.reduceToInt] at h9); rcases h9 with ⟨g1, g2⟩ | ⟨g1, g2⟩ | ⟨g1, g2⟩ <;> first | omega | (exfalso; rw [g1] at c_1; revert c_1; decide)
    refine lv_iload_n hx hb dX12_nears_25 rfl (lv_at hl 1 rfl) ?_
    refine lv_if_eq (tgt := 30) hx hb dX12_nears_26 (by decide) (fun c_2 => ?_) (fun c_2 => ?_)
    · refine lv_aload_n hx hb dX12_nears_30 rfl (lv_at hl 0 rfl) ?_
      refine lv_iconst (v := 0) hx hb dX12_nears_31 (by decide) ?_
      refine va_put (D := D) (ci := 11) (v := .int 0) (ty := .boolean) (C := RX12) (T := TX12) (N := 85) hx hb hts inX12 tyX12 tyX12_ok nmX12 hown hK hP hD hS 0 mwd_o0 rfl 44 (by decide) fl384 (fun _ h9 => h9) rfl (by decide +kernel) rfl rfl (Nat.le_of_ble_eq_true rfl) dX12_nears_32 (fun H locs hP hD hS => ?_)
      have hP : va_P D vwCl (mwd y ad zw (sI σ 44 0)) H := x_trP hP mwd_p0_44
      have hD : va_D A (mwd y ad zw (sI σ 44 0)) := x_trD hD mwd_p0_44
      refine lv_aload_n hx hb dX12_nears_35 rfl (lv_at hl 0 rfl) ?_
      refine lv_lload_n hx hb dX12_nears_36 rfl (lv_at hl 2 rfl) ?_
      refine lv_lload hx hb dX12_nears_37 (lv_at hl 3 rfl) ?_
      refine lv_lload hx hb dX12_nears_39 (lv_at hl 4 rfl) ?_
      refine lv_lload hx hb dX12_nears_41 (lv_at hl 5 rfl) ?_
      refine x_callvW (va_runV (As := [.long a, .long b, .long g, .long d]) (rest := []) ⟨hx, hb, hml, hown, hts⟩ (q_takesOff l D y H.size ad zw (sI σ 44 0) a b g d (by first | omega | decide) (by first | omega | decide) (by first | omega | decide) (by first | omega | decide) (by first | omega | decide) (by first | omega | decide) (by first | omega | decide) (by first | omega | decide)) (cwV 4 hts g_q_nears0_0 rfl rfl rfl (by decide +kernel) ⟨Nat.le_of_ble_eq_true rfl, Nat.le_of_ble_eq_true rfl⟩) (x_preV (q := (RX12, TX12, 85)) hK hP hD (ci := 11) (q0 := 0) rfl mwd_o0) rfl rfl hl.1 rfl (lv_room (Nat.le_of_ble_eq_true rfl)) dX12_nears_43 ⟨Nat.le_of_ble_eq_true rfl, Nat.le_of_ble_eq_true rfl⟩) hP hD hS hA (fun u H locs hw hP hD hS => ?_)
      obtain ⟨n_3, j_4, j_5⟩ := u
      try dsimp only at hw
      have hP : va_P D vwCl (mwd y ad zw (sJ (sJ (sI (sI σ 44 0) 44 n_3) 42 j_4) 43 j_5)) H := hP
      have hD : va_D A (mwd y ad zw (sJ (sJ (sI (sI σ 44 0) 44 n_3) 42 j_4) 43 j_5)) := hD
      refine lv_aload_n hx hb dX12_nears_46 rfl (lv_at hl 0 rfl) ?_
      refine va_get (D := D) (ci := 11) (v := .int n_3) (C := RX12) (T := TX12) (N := 85) hx hb hts inX12 hown hK hP 0 mwd_o0 rfl 44 (by decide) fl384 (fun _ h9 => h9) rfl dX12_nears_47 ?_
      refine lv_if_eq (tgt := 54) hx hb dX12_nears_50 (by decide) (fun c_6 => ?_) (fun c_6 => ?_)
      · have kc_6 : n_3.toInt = 0 := by have h9 := c_6; simp only [ge_iff_le, gt_iff_lt, x_lt, x_le, x_eq, ne_eq, Int32.not_lt, Int32.not_le] at h9; simp only [Int32.reduceToInt] at h9; omega
        refine lv_aload_n hx hb dX12_nears_54 rfl (lv_at hl 0 rfl) ?_
        refine va_get (D := D) (ci := 11) (v := .long j_4) (C := RX12) (T := TX12) (N := 85) hx hb hts inX12 hown hK hP 0 mwd_o0 rfl 42 (by decide) fl387 (fun _ h9 => h9) rfl dX12_nears_55 ?_
        refine x_calllN (va_runS (As := [.long j_4]) (rest := []) ⟨hx, hb, hml, hown, hts⟩ (q_size l D y H.size j_4 (by first | omega | decide)) (cwS 1 hts g_q_nears0_1 rfl rfl rfl (by decide +kernel) ⟨Nat.le_of_ble_eq_true rfl, Nat.le_of_ble_eq_true rfl⟩) (x_preS hK (x_nilP D H) (x_nilD A)) rfl rfl hl.1 rfl (lv_room (Nat.le_of_ble_eq_true rfl)) dX12_nears_58 ⟨Nat.le_of_ble_eq_true rfl, Nat.le_of_ble_eq_true rfl⟩) hP hD hS hA (fun r_7 u H locs hw hP hD hS => ?_)
        try dsimp only at hw
        refine lv_lstore (lv' := [(10, .long r_7), (0, .ref (ad 1)), (1, .int 0), (2, .long a), (4, .long b), (6, .long g), (8, .long d)]) hx hb dX12_nears_61 hl (by decide) rfl (fun ls hl => ?_)
        refine lv_aload_n hx hb dX12_nears_63 rfl (lv_at hl 1 rfl) ?_
        refine va_get (D := D) (ci := 11) (v := .int (σ.1 68)) (C := RX12) (T := TX12) (N := 85) hx hb hts inX12 hown hK hP 0 mwd_o0 rfl 68 (by decide) fl412 (fun _ h9 => h9) rfl dX12_nears_64 ?_
        refine lv_if_eq (tgt := 91) hx hb dX12_nears_67 (by decide) (fun c_8 => ?_) (fun c_8 => ?_)
        · have kc_8 : (σ.1 68).toInt = 0 := by have h9 := c_8; simp only [ge_iff_le, gt_iff_lt, x_lt, x_le, x_eq, ne_eq, Int32.not_lt, Int32.not_le] at h9; simp only [Int32.reduceToInt] at h9; omega
          refine lv_aload_n hx hb dX12_nears_91 rfl (lv_at hl 1 rfl) ?_
          refine lv_iconst (v := 1) hx hb dX12_nears_92 (by decide) ?_
          refine va_put (D := D) (ci := 11) (v := .int 1) (ty := .boolean) (C := RX12) (T := TX12) (N := 85) hx hb hts inX12 tyX12 tyX12_ok nmX12 hown hK hP hD hS 0 mwd_o0 rfl 68 (by decide) fl412 (fun _ h9 => h9) rfl (by decide +kernel) rfl rfl (Nat.le_of_ble_eq_true rfl) dX12_nears_93 (fun H locs hP hD hS => ?_)
          have hP : va_P D vwCl (mwd y ad zw (sI (sJ (sJ (sI (sI σ 44 0) 44 n_3) 42 j_4) 43 j_5) 68 1)) H := x_trP hP mwd_p0_68
          have hD : va_D A (mwd y ad zw (sI (sJ (sJ (sI (sI σ 44 0) 44 n_3) 42 j_4) 43 j_5) 68 1)) := x_trD hD mwd_p0_68
          refine lv_aload_n hx hb dX12_nears_96 rfl (lv_at hl 1 rfl) ?_
          refine lv_lload hx hb dX12_nears_97 (lv_at hl 0 rfl) ?_
          refine va_put (D := D) (ci := 11) (v := .long r_7) (ty := .long) (C := RX12) (T := TX12) (N := 85) hx hb hts inX12 tyX12 tyX12_ok nmX12 hown hK hP hD hS 0 mwd_o0 rfl 69 (by decide) fl418 (fun _ h9 => h9) rfl (by decide +kernel) rfl rfl (Nat.le_of_ble_eq_true rfl) dX12_nears_99 (fun H locs hP hD hS => ?_)
          have hP : va_P D vwCl (mwd y ad zw (sJ (sI (sJ (sJ (sI (sI σ 44 0) 44 n_3) 42 j_4) 43 j_5) 68 1) 69 r_7)) H := x_trP hP mwd_p0_69
          have hD : va_D A (mwd y ad zw (sJ (sI (sJ (sJ (sI (sI σ 44 0) 44 n_3) 42 j_4) 43 j_5) 68 1) 69 r_7)) := x_trD hD mwd_p0_69
          refine lv_aload_n hx hb dX12_nears_102 rfl (lv_at hl 1 rfl) ?_
          refine lv_aload_n hx hb dX12_nears_103 rfl (lv_at hl 1 rfl) ?_
          refine va_get (D := D) (ci := 11) (v := .long j_5) (C := RX12) (T := TX12) (N := 85) hx hb hts inX12 hown hK hP 0 mwd_o0 rfl 43 (by decide) fl391 (fun _ h9 => h9) rfl dX12_nears_104 ?_
          refine va_put (D := D) (ci := 11) (v := .long j_5) (ty := .long) (C := RX12) (T := TX12) (N := 85) hx hb hts inX12 tyX12 tyX12_ok nmX12 hown hK hP hD hS 0 mwd_o0 rfl 70 (by decide) fl415 (fun _ h9 => h9) rfl (by decide +kernel) rfl rfl (Nat.le_of_ble_eq_true rfl) dX12_nears_107 (fun H locs hP hD hS => ?_)
          have hP : va_P D vwCl (mwd y ad zw (sJ (sJ (sI (sJ (sJ (sI (sI σ 44 0) 44 n_3) 42 j_4) 43 j_5) 68 1) 69 r_7) 70 j_5)) H := x_trP hP mwd_p0_70
          have hD : va_D A (mwd y ad zw (sJ (sJ (sI (sJ (sJ (sI (sI σ 44 0) 44 n_3) 42 j_4) 43 j_5) 68 1) 69 r_7) 70 j_5)) := x_trD hD mwd_p0_70
          have hP : va_P D vwCl (mwd y ad zw (sJ (sJ (sI (sJ (sJ (sI (tI σ 66 (σ.2.2.1 66)) 44 n_3) 42 j_4) 43 j_5) 68 1) 69 r_7) 70 j_5)) H := hP
          have hD : va_D A (mwd y ad zw (sJ (sJ (sI (sJ (sJ (sI (tI σ 66 (σ.2.2.1 66)) 44 n_3) 42 j_4) 43 j_5) 68 1) 69 r_7) 70 j_5)) := hD
          exact x_vretW (u := ((σ.2.2.1 66), n_3, j_4, j_5, 1, r_7, j_5)) hx hb hr hQ trivial hP hD hK hS dX12_nears_110 hlocks
        · have kc_8 : (σ.1 68).toInt ≠ 0 := by have h9 := c_8; simp only [ge_iff_le, gt_iff_lt, x_lt, x_le, x_eq, ne_eq, Int32.not_lt, Int32.not_le] at h9; simp only [Int32.reduceToInt] at h9; omega
          refine lv_lload hx hb dX12_nears_70 (lv_at hl 0 rfl) ?_
          refine lv_aload_n hx hb dX12_nears_72 rfl (lv_at hl 1 rfl) ?_
          refine va_get (D := D) (ci := 11) (v := .long (σ.2.1 70)) (C := RX12) (T := TX12) (N := 85) hx hb hts inX12 hown hK hP 0 mwd_o0 rfl 70 (by decide) fl415 (fun _ h9 => h9) rfl dX12_nears_73 ?_
          refine lv_lmul hx hb dX12_nears_76 ?_
          refine lv_topl (fun j_9 ej_9 => ?_)
          refine lv_aload_n hx hb dX12_nears_77 rfl (lv_at hl 1 rfl) ?_
          refine va_get (D := D) (ci := 11) (v := .long (σ.2.1 69)) (C := RX12) (T := TX12) (N := 85) hx hb hts inX12 hown hK hP 0 mwd_o0 rfl 69 (by decide) fl418 (fun _ h9 => h9) rfl dX12_nears_78 ?_
          refine lv_aload_n hx hb dX12_nears_81 rfl (lv_at hl 1 rfl) ?_
          refine va_get (D := D) (ci := 11) (v := .long j_5) (C := RX12) (T := TX12) (N := 85) hx hb hts inX12 hown hK hP 0 mwd_o0 rfl 43 (by decide) fl391 (fun _ h9 => h9) rfl dX12_nears_82 ?_
          refine lv_lmul hx hb dX12_nears_85 ?_
          refine lv_topl (fun j_10 ej_10 => ?_)
          refine W.lcmp hx hb dX12_nears_86 ?_
          refine lv_if_lt (tgt := 91) hx hb dX12_nears_87 (by decide) (fun c_11 => ?_) (fun c_11 => ?_)
          · have kc_11 : j_9.toInt < j_10.toInt := by have h9 := x_tri j_9 j_10; (try simp only [Int64.reduceToInt] at h9); rcases h9 with ⟨g1, g2⟩ | ⟨g1, g2⟩ | ⟨g1, g2⟩ <;> first | omega | (exfalso; rw [g1] at c_11; revert c_11; decide)
            refine lv_aload_n hx hb dX12_nears_91 rfl (lv_at hl 1 rfl) ?_
            refine lv_iconst (v := 1) hx hb dX12_nears_92 (by decide) ?_
            refine va_put (D := D) (ci := 11) (v := .int 1) (ty := .boolean) (C := RX12) (T := TX12) (N := 85) hx hb hts inX12 tyX12 tyX12_ok nmX12 hown hK hP hD hS 0 mwd_o0 rfl 68 (by decide) fl412 (fun _ h9 => h9) rfl (by decide +kernel) rfl rfl (Nat.le_of_ble_eq_true rfl) dX12_nears_93 (fun H locs hP hD hS => ?_)
            have hP : va_P D vwCl (mwd y ad zw (sI (sJ (sJ (sI (sI σ 44 0) 44 n_3) 42 j_4) 43 j_5) 68 1)) H := x_trP hP mwd_p0_68
            have hD : va_D A (mwd y ad zw (sI (sJ (sJ (sI (sI σ 44 0) 44 n_3) 42 j_4) 43 j_5) 68 1)) := x_trD hD mwd_p0_68
            refine lv_aload_n hx hb dX12_nears_96 rfl (lv_at hl 1 rfl) ?_
            refine lv_lload hx hb dX12_nears_97 (lv_at hl 0 rfl) ?_
            refine va_put (D := D) (ci := 11) (v := .long r_7) (ty := .long) (C := RX12) (T := TX12) (N := 85) hx hb hts inX12 tyX12 tyX12_ok nmX12 hown hK hP hD hS 0 mwd_o0 rfl 69 (by decide) fl418 (fun _ h9 => h9) rfl (by decide +kernel) rfl rfl (Nat.le_of_ble_eq_true rfl) dX12_nears_99 (fun H locs hP hD hS => ?_)
            have hP : va_P D vwCl (mwd y ad zw (sJ (sI (sJ (sJ (sI (sI σ 44 0) 44 n_3) 42 j_4) 43 j_5) 68 1) 69 r_7)) H := x_trP hP mwd_p0_69
            have hD : va_D A (mwd y ad zw (sJ (sI (sJ (sJ (sI (sI σ 44 0) 44 n_3) 42 j_4) 43 j_5) 68 1) 69 r_7)) := x_trD hD mwd_p0_69
            refine lv_aload_n hx hb dX12_nears_102 rfl (lv_at hl 1 rfl) ?_
            refine lv_aload_n hx hb dX12_nears_103 rfl (lv_at hl 1 rfl) ?_
            refine va_get (D := D) (ci := 11) (v := .long j_5) (C := RX12) (T := TX12) (N := 85) hx hb hts inX12 hown hK hP 0 mwd_o0 rfl 43 (by decide) fl391 (fun _ h9 => h9) rfl dX12_nears_104 ?_
            refine va_put (D := D) (ci := 11) (v := .long j_5) (ty := .long) (C := RX12) (T := TX12) (N := 85) hx hb hts inX12 tyX12 tyX12_ok nmX12 hown hK hP hD hS 0 mwd_o0 rfl 70 (by decide) fl415 (fun _ h9 => h9) rfl (by decide +kernel) rfl rfl (Nat.le_of_ble_eq_true rfl) dX12_nears_107 (fun H locs hP hD hS => ?_)
            have hP : va_P D vwCl (mwd y ad zw (sJ (sJ (sI (sJ (sJ (sI (sI σ 44 0) 44 n_3) 42 j_4) 43 j_5) 68 1) 69 r_7) 70 j_5)) H := x_trP hP mwd_p0_70
            have hD : va_D A (mwd y ad zw (sJ (sJ (sI (sJ (sJ (sI (sI σ 44 0) 44 n_3) 42 j_4) 43 j_5) 68 1) 69 r_7) 70 j_5)) := x_trD hD mwd_p0_70
            have hP : va_P D vwCl (mwd y ad zw (sJ (sJ (sI (sJ (sJ (sI (tI σ 66 (σ.2.2.1 66)) 44 n_3) 42 j_4) 43 j_5) 68 1) 69 r_7) 70 j_5)) H := hP
            have hD : va_D A (mwd y ad zw (sJ (sJ (sI (sJ (sJ (sI (tI σ 66 (σ.2.2.1 66)) 44 n_3) 42 j_4) 43 j_5) 68 1) 69 r_7) 70 j_5)) := hD
            exact x_vretW (u := ((σ.2.2.1 66), n_3, j_4, j_5, 1, r_7, j_5)) hx hb hr hQ trivial hP hD hK hS dX12_nears_110 hlocks
          · have kc_11 : j_9.toInt ≥ j_10.toInt := by have h9 := x_tri j_9 j_10; (try simp only [Int64.reduceToInt] at h9); rcases h9 with ⟨g1, g2⟩ | ⟨g1, g2⟩ | ⟨g1, g2⟩ <;> first | omega | (exfalso; rw [g1] at c_11; revert c_11; decide)
            have hP : va_P D vwCl (mwd y ad zw (sJ (sJ (sI (sJ (sJ (sI (tI σ 66 (σ.2.2.1 66)) 44 n_3) 42 j_4) 43 j_5) 68 (σ.1 68)) 69 (σ.2.1 69)) 70 (σ.2.1 70))) H := hP
            have hD : va_D A (mwd y ad zw (sJ (sJ (sI (sJ (sJ (sI (tI σ 66 (σ.2.2.1 66)) 44 n_3) 42 j_4) 43 j_5) 68 (σ.1 68)) 69 (σ.2.1 69)) 70 (σ.2.1 70))) := hD
            exact x_vretW (u := ((σ.2.2.1 66), n_3, j_4, j_5, (σ.1 68), (σ.2.1 69), (σ.2.1 70))) hx hb hr hQ trivial hP hD hK hS dX12_nears_90 hlocks
      · have kc_6 : n_3.toInt ≠ 0 := by have h9 := c_6; simp only [ge_iff_le, gt_iff_lt, x_lt, x_le, x_eq, ne_eq, Int32.not_lt, Int32.not_le] at h9; simp only [Int32.reduceToInt] at h9; omega
        have hP : va_P D vwCl (mwd y ad zw (sJ (sJ (sI (sJ (sJ (sI (tI σ 66 (σ.2.2.1 66)) 44 n_3) 42 j_4) 43 j_5) 68 (σ.1 68)) 69 (σ.2.1 69)) 70 (σ.2.1 70))) H := hP
        have hD : va_D A (mwd y ad zw (sJ (sJ (sI (sJ (sJ (sI (tI σ 66 (σ.2.2.1 66)) 44 n_3) 42 j_4) 43 j_5) 68 (σ.1 68)) 69 (σ.2.1 69)) 70 (σ.2.1 70))) := hD
        exact x_vretW (u := ((σ.2.2.1 66), n_3, j_4, j_5, (σ.1 68), (σ.2.1 69), (σ.2.1 70))) hx hb hr hQ trivial hP hD hK hS dX12_nears_53 hlocks
    · exact absurd (by decide) c_2
  · have kc_1 : a.toInt = g.toInt := by have h9 := x_tri a g; (try simp only [Int64.reduceToInt] at h9); rcases h9 with ⟨g1, g2⟩ | ⟨g1, g2⟩ | ⟨g1, g2⟩ <;> first | omega | (exfalso; rw [g1] at c_1; revert c_1; decide)
    refine lv_lload hx hb dX12_nears_7 (lv_at hl 3 rfl) ?_
    refine lv_lload hx hb dX12_nears_9 (lv_at hl 5 rfl) ?_
    refine W.lcmp hx hb dX12_nears_11 ?_
    refine lv_if_ne (tgt := 25) hx hb dX12_nears_12 (by decide) (fun c_12 => ?_) (fun c_12 => ?_)
    · have kc_12 : b.toInt ≠ d.toInt := by have h9 := x_tri b d; (try simp only [Int64.reduceToInt] at h9); rcases h9 with ⟨g1, g2⟩ | ⟨g1, g2⟩ | ⟨g1, g2⟩ <;> first | omega | (exfalso; rw [g1] at c_12; revert c_12; decide)
      refine lv_iload_n hx hb dX12_nears_25 rfl (lv_at hl 1 rfl) ?_
      refine lv_if_eq (tgt := 30) hx hb dX12_nears_26 (by decide) (fun c_13 => ?_) (fun c_13 => ?_)
      · refine lv_aload_n hx hb dX12_nears_30 rfl (lv_at hl 0 rfl) ?_
        refine lv_iconst (v := 0) hx hb dX12_nears_31 (by decide) ?_
        refine va_put (D := D) (ci := 11) (v := .int 0) (ty := .boolean) (C := RX12) (T := TX12) (N := 85) hx hb hts inX12 tyX12 tyX12_ok nmX12 hown hK hP hD hS 0 mwd_o0 rfl 44 (by decide) fl384 (fun _ h9 => h9) rfl (by decide +kernel) rfl rfl (Nat.le_of_ble_eq_true rfl) dX12_nears_32 (fun H locs hP hD hS => ?_)
        have hP : va_P D vwCl (mwd y ad zw (sI σ 44 0)) H := x_trP hP mwd_p0_44
        have hD : va_D A (mwd y ad zw (sI σ 44 0)) := x_trD hD mwd_p0_44
        refine lv_aload_n hx hb dX12_nears_35 rfl (lv_at hl 0 rfl) ?_
        refine lv_lload_n hx hb dX12_nears_36 rfl (lv_at hl 2 rfl) ?_
        refine lv_lload hx hb dX12_nears_37 (lv_at hl 3 rfl) ?_
        refine lv_lload hx hb dX12_nears_39 (lv_at hl 4 rfl) ?_
        refine lv_lload hx hb dX12_nears_41 (lv_at hl 5 rfl) ?_
        refine x_callvW (va_runV (As := [.long a, .long b, .long g, .long d]) (rest := []) ⟨hx, hb, hml, hown, hts⟩ (q_takesOff l D y H.size ad zw (sI σ 44 0) a b g d (by first | omega | decide) (by first | omega | decide) (by first | omega | decide) (by first | omega | decide) (by first | omega | decide) (by first | omega | decide) (by first | omega | decide) (by first | omega | decide)) (cwV 4 hts g_q_nears0_0 rfl rfl rfl (by decide +kernel) ⟨Nat.le_of_ble_eq_true rfl, Nat.le_of_ble_eq_true rfl⟩) (x_preV (q := (RX12, TX12, 85)) hK hP hD (ci := 11) (q0 := 0) rfl mwd_o0) rfl rfl hl.1 rfl (lv_room (Nat.le_of_ble_eq_true rfl)) dX12_nears_43 ⟨Nat.le_of_ble_eq_true rfl, Nat.le_of_ble_eq_true rfl⟩) hP hD hS hA (fun u H locs hw hP hD hS => ?_)
        obtain ⟨n_14, j_15, j_16⟩ := u
        try dsimp only at hw
        have hP : va_P D vwCl (mwd y ad zw (sJ (sJ (sI (sI σ 44 0) 44 n_14) 42 j_15) 43 j_16)) H := hP
        have hD : va_D A (mwd y ad zw (sJ (sJ (sI (sI σ 44 0) 44 n_14) 42 j_15) 43 j_16)) := hD
        refine lv_aload_n hx hb dX12_nears_46 rfl (lv_at hl 0 rfl) ?_
        refine va_get (D := D) (ci := 11) (v := .int n_14) (C := RX12) (T := TX12) (N := 85) hx hb hts inX12 hown hK hP 0 mwd_o0 rfl 44 (by decide) fl384 (fun _ h9 => h9) rfl dX12_nears_47 ?_
        refine lv_if_eq (tgt := 54) hx hb dX12_nears_50 (by decide) (fun c_17 => ?_) (fun c_17 => ?_)
        · have kc_17 : n_14.toInt = 0 := by have h9 := c_17; simp only [ge_iff_le, gt_iff_lt, x_lt, x_le, x_eq, ne_eq, Int32.not_lt, Int32.not_le] at h9; simp only [Int32.reduceToInt] at h9; omega
          refine lv_aload_n hx hb dX12_nears_54 rfl (lv_at hl 0 rfl) ?_
          refine va_get (D := D) (ci := 11) (v := .long j_15) (C := RX12) (T := TX12) (N := 85) hx hb hts inX12 hown hK hP 0 mwd_o0 rfl 42 (by decide) fl387 (fun _ h9 => h9) rfl dX12_nears_55 ?_
          refine x_calllN (va_runS (As := [.long j_15]) (rest := []) ⟨hx, hb, hml, hown, hts⟩ (q_size l D y H.size j_15 (by first | omega | decide)) (cwS 1 hts g_q_nears0_1 rfl rfl rfl (by decide +kernel) ⟨Nat.le_of_ble_eq_true rfl, Nat.le_of_ble_eq_true rfl⟩) (x_preS hK (x_nilP D H) (x_nilD A)) rfl rfl hl.1 rfl (lv_room (Nat.le_of_ble_eq_true rfl)) dX12_nears_58 ⟨Nat.le_of_ble_eq_true rfl, Nat.le_of_ble_eq_true rfl⟩) hP hD hS hA (fun r_18 u H locs hw hP hD hS => ?_)
          try dsimp only at hw
          refine lv_lstore (lv' := [(10, .long r_18), (0, .ref (ad 1)), (1, .int 0), (2, .long a), (4, .long b), (6, .long g), (8, .long d)]) hx hb dX12_nears_61 hl (by decide) rfl (fun ls hl => ?_)
          refine lv_aload_n hx hb dX12_nears_63 rfl (lv_at hl 1 rfl) ?_
          refine va_get (D := D) (ci := 11) (v := .int (σ.1 68)) (C := RX12) (T := TX12) (N := 85) hx hb hts inX12 hown hK hP 0 mwd_o0 rfl 68 (by decide) fl412 (fun _ h9 => h9) rfl dX12_nears_64 ?_
          refine lv_if_eq (tgt := 91) hx hb dX12_nears_67 (by decide) (fun c_19 => ?_) (fun c_19 => ?_)
          · have kc_19 : (σ.1 68).toInt = 0 := by have h9 := c_19; simp only [ge_iff_le, gt_iff_lt, x_lt, x_le, x_eq, ne_eq, Int32.not_lt, Int32.not_le] at h9; simp only [Int32.reduceToInt] at h9; omega
            refine lv_aload_n hx hb dX12_nears_91 rfl (lv_at hl 1 rfl) ?_
            refine lv_iconst (v := 1) hx hb dX12_nears_92 (by decide) ?_
            refine va_put (D := D) (ci := 11) (v := .int 1) (ty := .boolean) (C := RX12) (T := TX12) (N := 85) hx hb hts inX12 tyX12 tyX12_ok nmX12 hown hK hP hD hS 0 mwd_o0 rfl 68 (by decide) fl412 (fun _ h9 => h9) rfl (by decide +kernel) rfl rfl (Nat.le_of_ble_eq_true rfl) dX12_nears_93 (fun H locs hP hD hS => ?_)
            have hP : va_P D vwCl (mwd y ad zw (sI (sJ (sJ (sI (sI σ 44 0) 44 n_14) 42 j_15) 43 j_16) 68 1)) H := x_trP hP mwd_p0_68
            have hD : va_D A (mwd y ad zw (sI (sJ (sJ (sI (sI σ 44 0) 44 n_14) 42 j_15) 43 j_16) 68 1)) := x_trD hD mwd_p0_68
            refine lv_aload_n hx hb dX12_nears_96 rfl (lv_at hl 1 rfl) ?_
            refine lv_lload hx hb dX12_nears_97 (lv_at hl 0 rfl) ?_
            refine va_put (D := D) (ci := 11) (v := .long r_18) (ty := .long) (C := RX12) (T := TX12) (N := 85) hx hb hts inX12 tyX12 tyX12_ok nmX12 hown hK hP hD hS 0 mwd_o0 rfl 69 (by decide) fl418 (fun _ h9 => h9) rfl (by decide +kernel) rfl rfl (Nat.le_of_ble_eq_true rfl) dX12_nears_99 (fun H locs hP hD hS => ?_)
            have hP : va_P D vwCl (mwd y ad zw (sJ (sI (sJ (sJ (sI (sI σ 44 0) 44 n_14) 42 j_15) 43 j_16) 68 1) 69 r_18)) H := x_trP hP mwd_p0_69
            have hD : va_D A (mwd y ad zw (sJ (sI (sJ (sJ (sI (sI σ 44 0) 44 n_14) 42 j_15) 43 j_16) 68 1) 69 r_18)) := x_trD hD mwd_p0_69
            refine lv_aload_n hx hb dX12_nears_102 rfl (lv_at hl 1 rfl) ?_
            refine lv_aload_n hx hb dX12_nears_103 rfl (lv_at hl 1 rfl) ?_
            refine va_get (D := D) (ci := 11) (v := .long j_16) (C := RX12) (T := TX12) (N := 85) hx hb hts inX12 hown hK hP 0 mwd_o0 rfl 43 (by decide) fl391 (fun _ h9 => h9) rfl dX12_nears_104 ?_
            refine va_put (D := D) (ci := 11) (v := .long j_16) (ty := .long) (C := RX12) (T := TX12) (N := 85) hx hb hts inX12 tyX12 tyX12_ok nmX12 hown hK hP hD hS 0 mwd_o0 rfl 70 (by decide) fl415 (fun _ h9 => h9) rfl (by decide +kernel) rfl rfl (Nat.le_of_ble_eq_true rfl) dX12_nears_107 (fun H locs hP hD hS => ?_)
            have hP : va_P D vwCl (mwd y ad zw (sJ (sJ (sI (sJ (sJ (sI (sI σ 44 0) 44 n_14) 42 j_15) 43 j_16) 68 1) 69 r_18) 70 j_16)) H := x_trP hP mwd_p0_70
            have hD : va_D A (mwd y ad zw (sJ (sJ (sI (sJ (sJ (sI (sI σ 44 0) 44 n_14) 42 j_15) 43 j_16) 68 1) 69 r_18) 70 j_16)) := x_trD hD mwd_p0_70
            have hP : va_P D vwCl (mwd y ad zw (sJ (sJ (sI (sJ (sJ (sI (tI σ 66 (σ.2.2.1 66)) 44 n_14) 42 j_15) 43 j_16) 68 1) 69 r_18) 70 j_16)) H := hP
            have hD : va_D A (mwd y ad zw (sJ (sJ (sI (sJ (sJ (sI (tI σ 66 (σ.2.2.1 66)) 44 n_14) 42 j_15) 43 j_16) 68 1) 69 r_18) 70 j_16)) := hD
            exact x_vretW (u := ((σ.2.2.1 66), n_14, j_15, j_16, 1, r_18, j_16)) hx hb hr hQ trivial hP hD hK hS dX12_nears_110 hlocks
          · have kc_19 : (σ.1 68).toInt ≠ 0 := by have h9 := c_19; simp only [ge_iff_le, gt_iff_lt, x_lt, x_le, x_eq, ne_eq, Int32.not_lt, Int32.not_le] at h9; simp only [Int32.reduceToInt] at h9; omega
            refine lv_lload hx hb dX12_nears_70 (lv_at hl 0 rfl) ?_
            refine lv_aload_n hx hb dX12_nears_72 rfl (lv_at hl 1 rfl) ?_
            refine va_get (D := D) (ci := 11) (v := .long (σ.2.1 70)) (C := RX12) (T := TX12) (N := 85) hx hb hts inX12 hown hK hP 0 mwd_o0 rfl 70 (by decide) fl415 (fun _ h9 => h9) rfl dX12_nears_73 ?_
            refine lv_lmul hx hb dX12_nears_76 ?_
            refine lv_topl (fun j_20 ej_20 => ?_)
            refine lv_aload_n hx hb dX12_nears_77 rfl (lv_at hl 1 rfl) ?_
            refine va_get (D := D) (ci := 11) (v := .long (σ.2.1 69)) (C := RX12) (T := TX12) (N := 85) hx hb hts inX12 hown hK hP 0 mwd_o0 rfl 69 (by decide) fl418 (fun _ h9 => h9) rfl dX12_nears_78 ?_
            refine lv_aload_n hx hb dX12_nears_81 rfl (lv_at hl 1 rfl) ?_
            refine va_get (D := D) (ci := 11) (v := .long j_16) (C := RX12) (T := TX12) (N := 85) hx hb hts inX12 hown hK hP 0 mwd_o0 rfl 43 (by decide) fl391 (fun _ h9 => h9) rfl dX12_nears_82 ?_
            refine lv_lmul hx hb dX12_nears_85 ?_
            refine lv_topl (fun j_21 ej_21 => ?_)
            refine W.lcmp hx hb dX12_nears_86 ?_
            refine lv_if_lt (tgt := 91) hx hb dX12_nears_87 (by decide) (fun c_22 => ?_) (fun c_22 => ?_)
            · have kc_22 : j_20.toInt < j_21.toInt := by have h9 := x_tri j_20 j_21; (try simp only [Int64.reduceToInt] at h9); rcases h9 with ⟨g1, g2⟩ | ⟨g1, g2⟩ | ⟨g1, g2⟩ <;> first | omega | (exfalso; rw [g1] at c_22; revert c_22; decide)
              refine lv_aload_n hx hb dX12_nears_91 rfl (lv_at hl 1 rfl) ?_
              refine lv_iconst (v := 1) hx hb dX12_nears_92 (by decide) ?_
              refine va_put (D := D) (ci := 11) (v := .int 1) (ty := .boolean) (C := RX12) (T := TX12) (N := 85) hx hb hts inX12 tyX12 tyX12_ok nmX12 hown hK hP hD hS 0 mwd_o0 rfl 68 (by decide) fl412 (fun _ h9 => h9) rfl (by decide +kernel) rfl rfl (Nat.le_of_ble_eq_true rfl) dX12_nears_93 (fun H locs hP hD hS => ?_)
              have hP : va_P D vwCl (mwd y ad zw (sI (sJ (sJ (sI (sI σ 44 0) 44 n_14) 42 j_15) 43 j_16) 68 1)) H := x_trP hP mwd_p0_68
              have hD : va_D A (mwd y ad zw (sI (sJ (sJ (sI (sI σ 44 0) 44 n_14) 42 j_15) 43 j_16) 68 1)) := x_trD hD mwd_p0_68
              refine lv_aload_n hx hb dX12_nears_96 rfl (lv_at hl 1 rfl) ?_
              refine lv_lload hx hb dX12_nears_97 (lv_at hl 0 rfl) ?_
              refine va_put (D := D) (ci := 11) (v := .long r_18) (ty := .long) (C := RX12) (T := TX12) (N := 85) hx hb hts inX12 tyX12 tyX12_ok nmX12 hown hK hP hD hS 0 mwd_o0 rfl 69 (by decide) fl418 (fun _ h9 => h9) rfl (by decide +kernel) rfl rfl (Nat.le_of_ble_eq_true rfl) dX12_nears_99 (fun H locs hP hD hS => ?_)
              have hP : va_P D vwCl (mwd y ad zw (sJ (sI (sJ (sJ (sI (sI σ 44 0) 44 n_14) 42 j_15) 43 j_16) 68 1) 69 r_18)) H := x_trP hP mwd_p0_69
              have hD : va_D A (mwd y ad zw (sJ (sI (sJ (sJ (sI (sI σ 44 0) 44 n_14) 42 j_15) 43 j_16) 68 1) 69 r_18)) := x_trD hD mwd_p0_69
              refine lv_aload_n hx hb dX12_nears_102 rfl (lv_at hl 1 rfl) ?_
              refine lv_aload_n hx hb dX12_nears_103 rfl (lv_at hl 1 rfl) ?_
              refine va_get (D := D) (ci := 11) (v := .long j_16) (C := RX12) (T := TX12) (N := 85) hx hb hts inX12 hown hK hP 0 mwd_o0 rfl 43 (by decide) fl391 (fun _ h9 => h9) rfl dX12_nears_104 ?_
              refine va_put (D := D) (ci := 11) (v := .long j_16) (ty := .long) (C := RX12) (T := TX12) (N := 85) hx hb hts inX12 tyX12 tyX12_ok nmX12 hown hK hP hD hS 0 mwd_o0 rfl 70 (by decide) fl415 (fun _ h9 => h9) rfl (by decide +kernel) rfl rfl (Nat.le_of_ble_eq_true rfl) dX12_nears_107 (fun H locs hP hD hS => ?_)
              have hP : va_P D vwCl (mwd y ad zw (sJ (sJ (sI (sJ (sJ (sI (sI σ 44 0) 44 n_14) 42 j_15) 43 j_16) 68 1) 69 r_18) 70 j_16)) H := x_trP hP mwd_p0_70
              have hD : va_D A (mwd y ad zw (sJ (sJ (sI (sJ (sJ (sI (sI σ 44 0) 44 n_14) 42 j_15) 43 j_16) 68 1) 69 r_18) 70 j_16)) := x_trD hD mwd_p0_70
              have hP : va_P D vwCl (mwd y ad zw (sJ (sJ (sI (sJ (sJ (sI (tI σ 66 (σ.2.2.1 66)) 44 n_14) 42 j_15) 43 j_16) 68 1) 69 r_18) 70 j_16)) H := hP
              have hD : va_D A (mwd y ad zw (sJ (sJ (sI (sJ (sJ (sI (tI σ 66 (σ.2.2.1 66)) 44 n_14) 42 j_15) 43 j_16) 68 1) 69 r_18) 70 j_16)) := hD
              exact x_vretW (u := ((σ.2.2.1 66), n_14, j_15, j_16, 1, r_18, j_16)) hx hb hr hQ trivial hP hD hK hS dX12_nears_110 hlocks
            · have kc_22 : j_20.toInt ≥ j_21.toInt := by have h9 := x_tri j_20 j_21; (try simp only [Int64.reduceToInt] at h9); rcases h9 with ⟨g1, g2⟩ | ⟨g1, g2⟩ | ⟨g1, g2⟩ <;> first | omega | (exfalso; rw [g1] at c_22; revert c_22; decide)
              have hP : va_P D vwCl (mwd y ad zw (sJ (sJ (sI (sJ (sJ (sI (tI σ 66 (σ.2.2.1 66)) 44 n_14) 42 j_15) 43 j_16) 68 (σ.1 68)) 69 (σ.2.1 69)) 70 (σ.2.1 70))) H := hP
              have hD : va_D A (mwd y ad zw (sJ (sJ (sI (sJ (sJ (sI (tI σ 66 (σ.2.2.1 66)) 44 n_14) 42 j_15) 43 j_16) 68 (σ.1 68)) 69 (σ.2.1 69)) 70 (σ.2.1 70))) := hD
              exact x_vretW (u := ((σ.2.2.1 66), n_14, j_15, j_16, (σ.1 68), (σ.2.1 69), (σ.2.1 70))) hx hb hr hQ trivial hP hD hK hS dX12_nears_90 hlocks
        · have kc_17 : n_14.toInt ≠ 0 := by have h9 := c_17; simp only [ge_iff_le, gt_iff_lt, x_lt, x_le, x_eq, ne_eq, Int32.not_lt, Int32.not_le] at h9; simp only [Int32.reduceToInt] at h9; omega
          have hP : va_P D vwCl (mwd y ad zw (sJ (sJ (sI (sJ (sJ (sI (tI σ 66 (σ.2.2.1 66)) 44 n_14) 42 j_15) 43 j_16) 68 (σ.1 68)) 69 (σ.2.1 69)) 70 (σ.2.1 70))) H := hP
          have hD : va_D A (mwd y ad zw (sJ (sJ (sI (sJ (sJ (sI (tI σ 66 (σ.2.2.1 66)) 44 n_14) 42 j_15) 43 j_16) 68 (σ.1 68)) 69 (σ.2.1 69)) 70 (σ.2.1 70))) := hD
          exact x_vretW (u := ((σ.2.2.1 66), n_14, j_15, j_16, (σ.1 68), (σ.2.1 69), (σ.2.1 70))) hx hb hr hQ trivial hP hD hK hS dX12_nears_53 hlocks
      · exact absurd (by decide) c_13
    · have kc_12 : b.toInt = d.toInt := by have h9 := x_tri b d; (try simp only [Int64.reduceToInt] at h9); rcases h9 with ⟨g1, g2⟩ | ⟨g1, g2⟩ | ⟨g1, g2⟩ <;> first | omega | (exfalso; rw [g1] at c_12; revert c_12; decide)
      refine lv_aload_n hx hb dX12_nears_15 rfl (lv_at hl 0 rfl) ?_
      refine va_get (D := D) (ci := 11) (v := .ref (ad 66)) (C := RX12) (T := TX12) (N := 85) hx hb hts inX12 hown hK hP 0 mwd_o0 rfl 66 (by decide) fl151 (fun _ h9 => h9) rfl dX12_nears_16 ?_
      refine lv_iload_n hx hb dX12_nears_19 rfl (lv_at hl 1 rfl) ?_
      refine lv_dup2_11 hx hb dX12_nears_20 rfl rfl ?_
      refine va_iald hx hb hK hP 46 2 mwd_a46 rfl (x_in (by decide) (by decide)) dX12_nears_21 ?_
      refine lv_topi (fun i_23 ei_23 => ?_)
      have ei_23 : i_23 = (σ.2.2.1 66) (Int32.toNatClampNeg 0) := ei_23
      refine lv_iconst (v := 1) hx hb dX12_nears_22 (by decide) ?_
      refine lv_iadd hx hb dX12_nears_23 ?_
      refine lv_topi (fun i_24 ei_24 => ?_)
      refine va_iast hx hb hK hP hD hS 46 2 mwd_a46 rfl (x_in (by decide) (by decide)) dX12_nears_24 (fun H locs hP hD hS => ?_)
      obtain ⟨f_25, ef_25⟩ : ∃ z9 : Nat → Int32, z9 = (upd (σ.2.2.1 66) (Int32.toNatClampNeg 0) i_24) := ⟨_, rfl⟩
      have hP : va_P D vwCl (mwd y ad zw (tI σ 66 f_25)) H := by rw [ef_25]; exact x_trP hP mwd_s46
      have hD : va_D A (mwd y ad zw (tI σ 66 f_25)) := by rw [ef_25]; exact x_trD hD mwd_s46
      refine lv_iload_n hx hb dX12_nears_25 rfl (lv_at hl 1 rfl) ?_
      refine lv_if_eq (tgt := 30) hx hb dX12_nears_26 (by decide) (fun c_26 => ?_) (fun c_26 => ?_)
      · refine lv_aload_n hx hb dX12_nears_30 rfl (lv_at hl 0 rfl) ?_
        refine lv_iconst (v := 0) hx hb dX12_nears_31 (by decide) ?_
        refine va_put (D := D) (ci := 11) (v := .int 0) (ty := .boolean) (C := RX12) (T := TX12) (N := 85) hx hb hts inX12 tyX12 tyX12_ok nmX12 hown hK hP hD hS 0 mwd_o0 rfl 44 (by decide) fl384 (fun _ h9 => h9) rfl (by decide +kernel) rfl rfl (Nat.le_of_ble_eq_true rfl) dX12_nears_32 (fun H locs hP hD hS => ?_)
        have hP : va_P D vwCl (mwd y ad zw (sI (tI σ 66 f_25) 44 0)) H := x_trP hP mwd_p0_44
        have hD : va_D A (mwd y ad zw (sI (tI σ 66 f_25) 44 0)) := x_trD hD mwd_p0_44
        refine lv_aload_n hx hb dX12_nears_35 rfl (lv_at hl 0 rfl) ?_
        refine lv_lload_n hx hb dX12_nears_36 rfl (lv_at hl 2 rfl) ?_
        refine lv_lload hx hb dX12_nears_37 (lv_at hl 3 rfl) ?_
        refine lv_lload hx hb dX12_nears_39 (lv_at hl 4 rfl) ?_
        refine lv_lload hx hb dX12_nears_41 (lv_at hl 5 rfl) ?_
        refine x_callvW (va_runV (As := [.long a, .long b, .long g, .long d]) (rest := []) ⟨hx, hb, hml, hown, hts⟩ (q_takesOff l D y H.size ad zw (sI (tI σ 66 f_25) 44 0) a b g d (by first | omega | decide) (by first | omega | decide) (by first | omega | decide) (by first | omega | decide) (by first | omega | decide) (by first | omega | decide) (by first | omega | decide) (by first | omega | decide)) (cwV 4 hts g_q_nears0_0 rfl rfl rfl (by decide +kernel) ⟨Nat.le_of_ble_eq_true rfl, Nat.le_of_ble_eq_true rfl⟩) (x_preV (q := (RX12, TX12, 85)) hK hP hD (ci := 11) (q0 := 0) rfl mwd_o0) rfl rfl hl.1 rfl (lv_room (Nat.le_of_ble_eq_true rfl)) dX12_nears_43 ⟨Nat.le_of_ble_eq_true rfl, Nat.le_of_ble_eq_true rfl⟩) hP hD hS hA (fun u H locs hw hP hD hS => ?_)
        obtain ⟨n_27, j_28, j_29⟩ := u
        try dsimp only at hw
        have hP : va_P D vwCl (mwd y ad zw (sJ (sJ (sI (sI (tI σ 66 f_25) 44 0) 44 n_27) 42 j_28) 43 j_29)) H := hP
        have hD : va_D A (mwd y ad zw (sJ (sJ (sI (sI (tI σ 66 f_25) 44 0) 44 n_27) 42 j_28) 43 j_29)) := hD
        refine lv_aload_n hx hb dX12_nears_46 rfl (lv_at hl 0 rfl) ?_
        refine va_get (D := D) (ci := 11) (v := .int n_27) (C := RX12) (T := TX12) (N := 85) hx hb hts inX12 hown hK hP 0 mwd_o0 rfl 44 (by decide) fl384 (fun _ h9 => h9) rfl dX12_nears_47 ?_
        refine lv_if_eq (tgt := 54) hx hb dX12_nears_50 (by decide) (fun c_30 => ?_) (fun c_30 => ?_)
        · have kc_30 : n_27.toInt = 0 := by have h9 := c_30; simp only [ge_iff_le, gt_iff_lt, x_lt, x_le, x_eq, ne_eq, Int32.not_lt, Int32.not_le] at h9; simp only [Int32.reduceToInt] at h9; omega
          refine lv_aload_n hx hb dX12_nears_54 rfl (lv_at hl 0 rfl) ?_
          refine va_get (D := D) (ci := 11) (v := .long j_28) (C := RX12) (T := TX12) (N := 85) hx hb hts inX12 hown hK hP 0 mwd_o0 rfl 42 (by decide) fl387 (fun _ h9 => h9) rfl dX12_nears_55 ?_
          refine x_calllN (va_runS (As := [.long j_28]) (rest := []) ⟨hx, hb, hml, hown, hts⟩ (q_size l D y H.size j_28 (by first | omega | decide)) (cwS 1 hts g_q_nears0_1 rfl rfl rfl (by decide +kernel) ⟨Nat.le_of_ble_eq_true rfl, Nat.le_of_ble_eq_true rfl⟩) (x_preS hK (x_nilP D H) (x_nilD A)) rfl rfl hl.1 rfl (lv_room (Nat.le_of_ble_eq_true rfl)) dX12_nears_58 ⟨Nat.le_of_ble_eq_true rfl, Nat.le_of_ble_eq_true rfl⟩) hP hD hS hA (fun r_31 u H locs hw hP hD hS => ?_)
          try dsimp only at hw
          refine lv_lstore (lv' := [(10, .long r_31), (0, .ref (ad 1)), (1, .int 0), (2, .long a), (4, .long b), (6, .long g), (8, .long d)]) hx hb dX12_nears_61 hl (by decide) rfl (fun ls hl => ?_)
          refine lv_aload_n hx hb dX12_nears_63 rfl (lv_at hl 1 rfl) ?_
          refine va_get (D := D) (ci := 11) (v := .int (σ.1 68)) (C := RX12) (T := TX12) (N := 85) hx hb hts inX12 hown hK hP 0 mwd_o0 rfl 68 (by decide) fl412 (fun _ h9 => h9) rfl dX12_nears_64 ?_
          refine lv_if_eq (tgt := 91) hx hb dX12_nears_67 (by decide) (fun c_32 => ?_) (fun c_32 => ?_)
          · have kc_32 : (σ.1 68).toInt = 0 := by have h9 := c_32; simp only [ge_iff_le, gt_iff_lt, x_lt, x_le, x_eq, ne_eq, Int32.not_lt, Int32.not_le] at h9; simp only [Int32.reduceToInt] at h9; omega
            refine lv_aload_n hx hb dX12_nears_91 rfl (lv_at hl 1 rfl) ?_
            refine lv_iconst (v := 1) hx hb dX12_nears_92 (by decide) ?_
            refine va_put (D := D) (ci := 11) (v := .int 1) (ty := .boolean) (C := RX12) (T := TX12) (N := 85) hx hb hts inX12 tyX12 tyX12_ok nmX12 hown hK hP hD hS 0 mwd_o0 rfl 68 (by decide) fl412 (fun _ h9 => h9) rfl (by decide +kernel) rfl rfl (Nat.le_of_ble_eq_true rfl) dX12_nears_93 (fun H locs hP hD hS => ?_)
            have hP : va_P D vwCl (mwd y ad zw (sI (sJ (sJ (sI (sI (tI σ 66 f_25) 44 0) 44 n_27) 42 j_28) 43 j_29) 68 1)) H := x_trP hP mwd_p0_68
            have hD : va_D A (mwd y ad zw (sI (sJ (sJ (sI (sI (tI σ 66 f_25) 44 0) 44 n_27) 42 j_28) 43 j_29) 68 1)) := x_trD hD mwd_p0_68
            refine lv_aload_n hx hb dX12_nears_96 rfl (lv_at hl 1 rfl) ?_
            refine lv_lload hx hb dX12_nears_97 (lv_at hl 0 rfl) ?_
            refine va_put (D := D) (ci := 11) (v := .long r_31) (ty := .long) (C := RX12) (T := TX12) (N := 85) hx hb hts inX12 tyX12 tyX12_ok nmX12 hown hK hP hD hS 0 mwd_o0 rfl 69 (by decide) fl418 (fun _ h9 => h9) rfl (by decide +kernel) rfl rfl (Nat.le_of_ble_eq_true rfl) dX12_nears_99 (fun H locs hP hD hS => ?_)
            have hP : va_P D vwCl (mwd y ad zw (sJ (sI (sJ (sJ (sI (sI (tI σ 66 f_25) 44 0) 44 n_27) 42 j_28) 43 j_29) 68 1) 69 r_31)) H := x_trP hP mwd_p0_69
            have hD : va_D A (mwd y ad zw (sJ (sI (sJ (sJ (sI (sI (tI σ 66 f_25) 44 0) 44 n_27) 42 j_28) 43 j_29) 68 1) 69 r_31)) := x_trD hD mwd_p0_69
            refine lv_aload_n hx hb dX12_nears_102 rfl (lv_at hl 1 rfl) ?_
            refine lv_aload_n hx hb dX12_nears_103 rfl (lv_at hl 1 rfl) ?_
            refine va_get (D := D) (ci := 11) (v := .long j_29) (C := RX12) (T := TX12) (N := 85) hx hb hts inX12 hown hK hP 0 mwd_o0 rfl 43 (by decide) fl391 (fun _ h9 => h9) rfl dX12_nears_104 ?_
            refine va_put (D := D) (ci := 11) (v := .long j_29) (ty := .long) (C := RX12) (T := TX12) (N := 85) hx hb hts inX12 tyX12 tyX12_ok nmX12 hown hK hP hD hS 0 mwd_o0 rfl 70 (by decide) fl415 (fun _ h9 => h9) rfl (by decide +kernel) rfl rfl (Nat.le_of_ble_eq_true rfl) dX12_nears_107 (fun H locs hP hD hS => ?_)
            have hP : va_P D vwCl (mwd y ad zw (sJ (sJ (sI (sJ (sJ (sI (sI (tI σ 66 f_25) 44 0) 44 n_27) 42 j_28) 43 j_29) 68 1) 69 r_31) 70 j_29)) H := x_trP hP mwd_p0_70
            have hD : va_D A (mwd y ad zw (sJ (sJ (sI (sJ (sJ (sI (sI (tI σ 66 f_25) 44 0) 44 n_27) 42 j_28) 43 j_29) 68 1) 69 r_31) 70 j_29)) := x_trD hD mwd_p0_70
            have hP : va_P D vwCl (mwd y ad zw (sJ (sJ (sI (sJ (sJ (sI (tI σ 66 f_25) 44 n_27) 42 j_28) 43 j_29) 68 1) 69 r_31) 70 j_29)) H := hP
            have hD : va_D A (mwd y ad zw (sJ (sJ (sI (sJ (sJ (sI (tI σ 66 f_25) 44 n_27) 42 j_28) 43 j_29) 68 1) 69 r_31) 70 j_29)) := hD
            exact x_vretW (u := (f_25, n_27, j_28, j_29, 1, r_31, j_29)) hx hb hr hQ trivial hP hD hK hS dX12_nears_110 hlocks
          · have kc_32 : (σ.1 68).toInt ≠ 0 := by have h9 := c_32; simp only [ge_iff_le, gt_iff_lt, x_lt, x_le, x_eq, ne_eq, Int32.not_lt, Int32.not_le] at h9; simp only [Int32.reduceToInt] at h9; omega
            refine lv_lload hx hb dX12_nears_70 (lv_at hl 0 rfl) ?_
            refine lv_aload_n hx hb dX12_nears_72 rfl (lv_at hl 1 rfl) ?_
            refine va_get (D := D) (ci := 11) (v := .long (σ.2.1 70)) (C := RX12) (T := TX12) (N := 85) hx hb hts inX12 hown hK hP 0 mwd_o0 rfl 70 (by decide) fl415 (fun _ h9 => h9) rfl dX12_nears_73 ?_
            refine lv_lmul hx hb dX12_nears_76 ?_
            refine lv_topl (fun j_33 ej_33 => ?_)
            refine lv_aload_n hx hb dX12_nears_77 rfl (lv_at hl 1 rfl) ?_
            refine va_get (D := D) (ci := 11) (v := .long (σ.2.1 69)) (C := RX12) (T := TX12) (N := 85) hx hb hts inX12 hown hK hP 0 mwd_o0 rfl 69 (by decide) fl418 (fun _ h9 => h9) rfl dX12_nears_78 ?_
            refine lv_aload_n hx hb dX12_nears_81 rfl (lv_at hl 1 rfl) ?_
            refine va_get (D := D) (ci := 11) (v := .long j_29) (C := RX12) (T := TX12) (N := 85) hx hb hts inX12 hown hK hP 0 mwd_o0 rfl 43 (by decide) fl391 (fun _ h9 => h9) rfl dX12_nears_82 ?_
            refine lv_lmul hx hb dX12_nears_85 ?_
            refine lv_topl (fun j_34 ej_34 => ?_)
            refine W.lcmp hx hb dX12_nears_86 ?_
            refine lv_if_lt (tgt := 91) hx hb dX12_nears_87 (by decide) (fun c_35 => ?_) (fun c_35 => ?_)
            · have kc_35 : j_33.toInt < j_34.toInt := by have h9 := x_tri j_33 j_34; (try simp only [Int64.reduceToInt] at h9); rcases h9 with ⟨g1, g2⟩ | ⟨g1, g2⟩ | ⟨g1, g2⟩ <;> first | omega | (exfalso; rw [g1] at c_35; revert c_35; decide)
              refine lv_aload_n hx hb dX12_nears_91 rfl (lv_at hl 1 rfl) ?_
              refine lv_iconst (v := 1) hx hb dX12_nears_92 (by decide) ?_
              refine va_put (D := D) (ci := 11) (v := .int 1) (ty := .boolean) (C := RX12) (T := TX12) (N := 85) hx hb hts inX12 tyX12 tyX12_ok nmX12 hown hK hP hD hS 0 mwd_o0 rfl 68 (by decide) fl412 (fun _ h9 => h9) rfl (by decide +kernel) rfl rfl (Nat.le_of_ble_eq_true rfl) dX12_nears_93 (fun H locs hP hD hS => ?_)
              have hP : va_P D vwCl (mwd y ad zw (sI (sJ (sJ (sI (sI (tI σ 66 f_25) 44 0) 44 n_27) 42 j_28) 43 j_29) 68 1)) H := x_trP hP mwd_p0_68
              have hD : va_D A (mwd y ad zw (sI (sJ (sJ (sI (sI (tI σ 66 f_25) 44 0) 44 n_27) 42 j_28) 43 j_29) 68 1)) := x_trD hD mwd_p0_68
              refine lv_aload_n hx hb dX12_nears_96 rfl (lv_at hl 1 rfl) ?_
              refine lv_lload hx hb dX12_nears_97 (lv_at hl 0 rfl) ?_
              refine va_put (D := D) (ci := 11) (v := .long r_31) (ty := .long) (C := RX12) (T := TX12) (N := 85) hx hb hts inX12 tyX12 tyX12_ok nmX12 hown hK hP hD hS 0 mwd_o0 rfl 69 (by decide) fl418 (fun _ h9 => h9) rfl (by decide +kernel) rfl rfl (Nat.le_of_ble_eq_true rfl) dX12_nears_99 (fun H locs hP hD hS => ?_)
              have hP : va_P D vwCl (mwd y ad zw (sJ (sI (sJ (sJ (sI (sI (tI σ 66 f_25) 44 0) 44 n_27) 42 j_28) 43 j_29) 68 1) 69 r_31)) H := x_trP hP mwd_p0_69
              have hD : va_D A (mwd y ad zw (sJ (sI (sJ (sJ (sI (sI (tI σ 66 f_25) 44 0) 44 n_27) 42 j_28) 43 j_29) 68 1) 69 r_31)) := x_trD hD mwd_p0_69
              refine lv_aload_n hx hb dX12_nears_102 rfl (lv_at hl 1 rfl) ?_
              refine lv_aload_n hx hb dX12_nears_103 rfl (lv_at hl 1 rfl) ?_
              refine va_get (D := D) (ci := 11) (v := .long j_29) (C := RX12) (T := TX12) (N := 85) hx hb hts inX12 hown hK hP 0 mwd_o0 rfl 43 (by decide) fl391 (fun _ h9 => h9) rfl dX12_nears_104 ?_
              refine va_put (D := D) (ci := 11) (v := .long j_29) (ty := .long) (C := RX12) (T := TX12) (N := 85) hx hb hts inX12 tyX12 tyX12_ok nmX12 hown hK hP hD hS 0 mwd_o0 rfl 70 (by decide) fl415 (fun _ h9 => h9) rfl (by decide +kernel) rfl rfl (Nat.le_of_ble_eq_true rfl) dX12_nears_107 (fun H locs hP hD hS => ?_)
              have hP : va_P D vwCl (mwd y ad zw (sJ (sJ (sI (sJ (sJ (sI (sI (tI σ 66 f_25) 44 0) 44 n_27) 42 j_28) 43 j_29) 68 1) 69 r_31) 70 j_29)) H := x_trP hP mwd_p0_70
              have hD : va_D A (mwd y ad zw (sJ (sJ (sI (sJ (sJ (sI (sI (tI σ 66 f_25) 44 0) 44 n_27) 42 j_28) 43 j_29) 68 1) 69 r_31) 70 j_29)) := x_trD hD mwd_p0_70
              have hP : va_P D vwCl (mwd y ad zw (sJ (sJ (sI (sJ (sJ (sI (tI σ 66 f_25) 44 n_27) 42 j_28) 43 j_29) 68 1) 69 r_31) 70 j_29)) H := hP
              have hD : va_D A (mwd y ad zw (sJ (sJ (sI (sJ (sJ (sI (tI σ 66 f_25) 44 n_27) 42 j_28) 43 j_29) 68 1) 69 r_31) 70 j_29)) := hD
              exact x_vretW (u := (f_25, n_27, j_28, j_29, 1, r_31, j_29)) hx hb hr hQ trivial hP hD hK hS dX12_nears_110 hlocks
            · have kc_35 : j_33.toInt ≥ j_34.toInt := by have h9 := x_tri j_33 j_34; (try simp only [Int64.reduceToInt] at h9); rcases h9 with ⟨g1, g2⟩ | ⟨g1, g2⟩ | ⟨g1, g2⟩ <;> first | omega | (exfalso; rw [g1] at c_35; revert c_35; decide)
              have hP : va_P D vwCl (mwd y ad zw (sJ (sJ (sI (sJ (sJ (sI (tI σ 66 f_25) 44 n_27) 42 j_28) 43 j_29) 68 (σ.1 68)) 69 (σ.2.1 69)) 70 (σ.2.1 70))) H := hP
              have hD : va_D A (mwd y ad zw (sJ (sJ (sI (sJ (sJ (sI (tI σ 66 f_25) 44 n_27) 42 j_28) 43 j_29) 68 (σ.1 68)) 69 (σ.2.1 69)) 70 (σ.2.1 70))) := hD
              exact x_vretW (u := (f_25, n_27, j_28, j_29, (σ.1 68), (σ.2.1 69), (σ.2.1 70))) hx hb hr hQ trivial hP hD hK hS dX12_nears_90 hlocks
        · have kc_30 : n_27.toInt ≠ 0 := by have h9 := c_30; simp only [ge_iff_le, gt_iff_lt, x_lt, x_le, x_eq, ne_eq, Int32.not_lt, Int32.not_le] at h9; simp only [Int32.reduceToInt] at h9; omega
          have hP : va_P D vwCl (mwd y ad zw (sJ (sJ (sI (sJ (sJ (sI (tI σ 66 f_25) 44 n_27) 42 j_28) 43 j_29) 68 (σ.1 68)) 69 (σ.2.1 69)) 70 (σ.2.1 70))) H := hP
          have hD : va_D A (mwd y ad zw (sJ (sJ (sI (sJ (sJ (sI (tI σ 66 f_25) 44 n_27) 42 j_28) 43 j_29) 68 (σ.1 68)) 69 (σ.2.1 69)) 70 (σ.2.1 70))) := hD
          exact x_vretW (u := (f_25, n_27, j_28, j_29, (σ.1 68), (σ.2.1 69), (σ.2.1 70))) hx hb hr hQ trivial hP hD hK hS dX12_nears_53 hlocks
      · exact absurd (by decide) c_26

def v_q_nears1 : List Cond := .code yX12_nears cX12_nears 12 none :: ([.fieldLink RX12 151 "SlopeRunnerModel" "edges" "[I"] ++ wsX120)
set_option maxHeartbeats 4000000 in
set_option maxRecDepth 100000 in
theorem q_nears1 (l : Launch) (D : va_G) (y : Nat → ClassId) (sz : Nat) (ad : Nat → Nat) (zw : Nat → Nat → Int32) (σ : OS) (a b g d : Int64) (ha0 : -1000000000 ≤ a.toInt) (ha1 : a.toInt ≤ 1000000000) (hb0 : 0 ≤ b.toInt) (hb1 : b.toInt ≤ 1000000000) (hg0 : -1000000000 ≤ g.toInt) (hg1 : g.toInt ≤ 1000000000) (hd0 : 0 ≤ d.toInt) (hd1 : d.toInt ≤ 1000000000) : Met l yX12_nears v_q_nears1 ({ frames := 0, cells := 0, slots := 0, locals := 0 } : Room) (va_Pc [.ref (ad 1), .int 1, .long a, .long b, .long g, .long d] (xPre D (xT y) (mwd y ad zw σ) sz)) (va_Qv (fun (u : (Nat → Int32) × Int32 × Int64 × Int64 × Int32 × Int64 × Int64) => True) (fun (u : (Nat → Int32) × Int32 × Int64 × Int64 × Int32 × Int64 × Int64) => xB D (xT y) (va_A (mwd y ad zw σ) sz) (mwd y ad zw (sJ (sJ (sI (sJ (sJ (sI (tI σ 66 u.1) 44 u.2.1) 42 u.2.2.1) 43 u.2.2.2.1) 68 u.2.2.2.2.1) 69 u.2.2.2.2.2.1) 70 u.2.2.2.2.2.2))) (va_A (mwd y ad zw σ) sz)) 0 0 (va_A (mwd y ad zw σ) sz) := by
  refine x_metv (cc := cX12_nears) (maxL := 12) (by decide) rfl (Nat.le_of_ble_eq_true rfl) ?_
  intro p e s m below meth c A H locs Q hx hb hml hown hts hr hlocks hmn hA hP hK hD hS ls hl hQ
  have hl : lv_has ls 12 [(0, .ref (ad 1)), (1, .int 1), (2, .long a), (4, .long b), (6, .long g), (8, .long d)] := hl
  have fl151 := hts (.fieldLink RX12 151 "SlopeRunnerModel" "edges" "[I") (List.mem_of_getElem? (i := 1) rfl)
  have inX12 : ∀ w ∈ wsX120, w ∈ v_q_nears1 := (fun w h => List.mem_cons_of_mem _ (List.mem_append_right _ h))
  refine lv_lload_n hx hb dX12_nears_0 rfl (lv_at hl 2 rfl) ?_
  refine lv_lload hx hb dX12_nears_1 (lv_at hl 4 rfl) ?_
  refine W.lcmp hx hb dX12_nears_3 ?_
  refine lv_if_ne (tgt := 25) hx hb dX12_nears_4 (by decide) (fun c_1 => ?_) (fun c_1 => ?_)
  · have kc_1 : a.toInt ≠ g.toInt := by have h9 := x_tri a g; (try simp only [Int64.reduceToInt] at h9); rcases h9 with ⟨g1, g2⟩ | ⟨g1, g2⟩ | ⟨g1, g2⟩ <;> first | omega | (exfalso; rw [g1] at c_1; revert c_1; decide)
    refine lv_iload_n hx hb dX12_nears_25 rfl (lv_at hl 1 rfl) ?_
    refine lv_if_eq (tgt := 30) hx hb dX12_nears_26 (by decide) (fun c_2 => ?_) (fun c_2 => ?_)
    · exact absurd c_2 (by decide)
    · have hP : va_P D vwCl (mwd y ad zw (sJ (sJ (sI (sJ (sJ (sI (tI σ 66 (σ.2.2.1 66)) 44 (σ.1 44)) 42 (σ.2.1 42)) 43 (σ.2.1 43)) 68 (σ.1 68)) 69 (σ.2.1 69)) 70 (σ.2.1 70))) H := hP
      have hD : va_D A (mwd y ad zw (sJ (sJ (sI (sJ (sJ (sI (tI σ 66 (σ.2.2.1 66)) 44 (σ.1 44)) 42 (σ.2.1 42)) 43 (σ.2.1 43)) 68 (σ.1 68)) 69 (σ.2.1 69)) 70 (σ.2.1 70))) := hD
      exact x_vretW (u := ((σ.2.2.1 66), (σ.1 44), (σ.2.1 42), (σ.2.1 43), (σ.1 68), (σ.2.1 69), (σ.2.1 70))) hx hb hr hQ trivial hP hD hK hS dX12_nears_29 hlocks
  · have kc_1 : a.toInt = g.toInt := by have h9 := x_tri a g; (try simp only [Int64.reduceToInt] at h9); rcases h9 with ⟨g1, g2⟩ | ⟨g1, g2⟩ | ⟨g1, g2⟩ <;> first | omega | (exfalso; rw [g1] at c_1; revert c_1; decide)
    refine lv_lload hx hb dX12_nears_7 (lv_at hl 3 rfl) ?_
    refine lv_lload hx hb dX12_nears_9 (lv_at hl 5 rfl) ?_
    refine W.lcmp hx hb dX12_nears_11 ?_
    refine lv_if_ne (tgt := 25) hx hb dX12_nears_12 (by decide) (fun c_3 => ?_) (fun c_3 => ?_)
    · have kc_3 : b.toInt ≠ d.toInt := by have h9 := x_tri b d; (try simp only [Int64.reduceToInt] at h9); rcases h9 with ⟨g1, g2⟩ | ⟨g1, g2⟩ | ⟨g1, g2⟩ <;> first | omega | (exfalso; rw [g1] at c_3; revert c_3; decide)
      refine lv_iload_n hx hb dX12_nears_25 rfl (lv_at hl 1 rfl) ?_
      refine lv_if_eq (tgt := 30) hx hb dX12_nears_26 (by decide) (fun c_4 => ?_) (fun c_4 => ?_)
      · exact absurd c_4 (by decide)
      · have hP : va_P D vwCl (mwd y ad zw (sJ (sJ (sI (sJ (sJ (sI (tI σ 66 (σ.2.2.1 66)) 44 (σ.1 44)) 42 (σ.2.1 42)) 43 (σ.2.1 43)) 68 (σ.1 68)) 69 (σ.2.1 69)) 70 (σ.2.1 70))) H := hP
        have hD : va_D A (mwd y ad zw (sJ (sJ (sI (sJ (sJ (sI (tI σ 66 (σ.2.2.1 66)) 44 (σ.1 44)) 42 (σ.2.1 42)) 43 (σ.2.1 43)) 68 (σ.1 68)) 69 (σ.2.1 69)) 70 (σ.2.1 70))) := hD
        exact x_vretW (u := ((σ.2.2.1 66), (σ.1 44), (σ.2.1 42), (σ.2.1 43), (σ.1 68), (σ.2.1 69), (σ.2.1 70))) hx hb hr hQ trivial hP hD hK hS dX12_nears_29 hlocks
    · have kc_3 : b.toInt = d.toInt := by have h9 := x_tri b d; (try simp only [Int64.reduceToInt] at h9); rcases h9 with ⟨g1, g2⟩ | ⟨g1, g2⟩ | ⟨g1, g2⟩ <;> first | omega | (exfalso; rw [g1] at c_3; revert c_3; decide)
      refine lv_aload_n hx hb dX12_nears_15 rfl (lv_at hl 0 rfl) ?_
      refine va_get (D := D) (ci := 11) (v := .ref (ad 66)) (C := RX12) (T := TX12) (N := 85) hx hb hts inX12 hown hK hP 0 mwd_o0 rfl 66 (by decide) fl151 (fun _ h9 => h9) rfl dX12_nears_16 ?_
      refine lv_iload_n hx hb dX12_nears_19 rfl (lv_at hl 1 rfl) ?_
      refine lv_dup2_11 hx hb dX12_nears_20 rfl rfl ?_
      refine va_iald hx hb hK hP 46 2 mwd_a46 rfl (x_in (by decide) (by decide)) dX12_nears_21 ?_
      refine lv_topi (fun i_5 ei_5 => ?_)
      have ei_5 : i_5 = (σ.2.2.1 66) (Int32.toNatClampNeg 1) := ei_5
      refine lv_iconst (v := 1) hx hb dX12_nears_22 (by decide) ?_
      refine lv_iadd hx hb dX12_nears_23 ?_
      refine lv_topi (fun i_6 ei_6 => ?_)
      refine va_iast hx hb hK hP hD hS 46 2 mwd_a46 rfl (x_in (by decide) (by decide)) dX12_nears_24 (fun H locs hP hD hS => ?_)
      obtain ⟨f_7, ef_7⟩ : ∃ z9 : Nat → Int32, z9 = (upd (σ.2.2.1 66) (Int32.toNatClampNeg 1) i_6) := ⟨_, rfl⟩
      have hP : va_P D vwCl (mwd y ad zw (tI σ 66 f_7)) H := by rw [ef_7]; exact x_trP hP mwd_s46
      have hD : va_D A (mwd y ad zw (tI σ 66 f_7)) := by rw [ef_7]; exact x_trD hD mwd_s46
      refine lv_iload_n hx hb dX12_nears_25 rfl (lv_at hl 1 rfl) ?_
      refine lv_if_eq (tgt := 30) hx hb dX12_nears_26 (by decide) (fun c_8 => ?_) (fun c_8 => ?_)
      · exact absurd c_8 (by decide)
      · have hP : va_P D vwCl (mwd y ad zw (sJ (sJ (sI (sJ (sJ (sI (tI σ 66 f_7) 44 (σ.1 44)) 42 (σ.2.1 42)) 43 (σ.2.1 43)) 68 (σ.1 68)) 69 (σ.2.1 69)) 70 (σ.2.1 70))) H := hP
        have hD : va_D A (mwd y ad zw (sJ (sJ (sI (sJ (sJ (sI (tI σ 66 f_7) 44 (σ.1 44)) 42 (σ.2.1 42)) 43 (σ.2.1 43)) 68 (σ.1 68)) 69 (σ.2.1 69)) 70 (σ.2.1 70))) := hD
        exact x_vretW (u := (f_7, (σ.1 44), (σ.2.1 42), (σ.2.1 43), (σ.1 68), (σ.2.1 69), (σ.2.1 70))) hx hb hr hQ trivial hP hD hK hS dX12_nears_29 hlocks

