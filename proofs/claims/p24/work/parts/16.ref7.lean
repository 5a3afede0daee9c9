/-- a jump's aim: the same stack; back only from where a comparison has been to where none has -/
def JT (ty : Nat → Option (List Bool × Bool)) (n i : Nat) (b : Bool) (T : List Bool) (t : Nat) : Prop := t ≤ n ∧ ∃ b' : Bool, ty t = some (T, b') ∧ ((i < t ∧ (b' = true → b = true)) ∨ (b = true ∧ b' = false))
/-- one instruction keeps the types -/
def SOK (f : Nat → Int32) (n : Nat) (nk : Int) (ty : Nat → Option (List Bool × Bool)) (i : Nat) (T : List Bool) (b : Bool) : Prop :=
  (1000 ≤ (f i).toInt ∧ (f i).toInt < 1000 + nk ∧ ∃ b1 : Bool, (b1 = true → b = true) ∧ ty (i + 1) = some (true :: T, b1)) ∨
  (100 ≤ (f i).toInt ∧ (f i).toInt < 120 ∧ ∃ b1 : Bool, (b1 = true → b = true) ∧ ty (i + 1) = some (true :: T, b1)) ∨
  (∃ T0, 200 ≤ (f i).toInt ∧ (f i).toInt < 204 ∧ T = true :: T0 ∧ ∃ b1 : Bool, (b1 = true → b = true) ∧ ty (i + 1) = some (true :: T0, b1)) ∨
  (∃ T0, 300 ≤ (f i).toInt ∧ (f i).toInt < 320 ∧ T = true :: T0 ∧ ∃ b1 : Bool, (b1 = true → b = true) ∧ ty (i + 1) = some (T0, b1)) ∨
  (∃ T0, 400 ≤ (f i).toInt ∧ (f i).toInt < 404 ∧ T = true :: true :: T0 ∧ ∃ b1 : Bool, (b1 = true → b = true) ∧ ty (i + 1) = some (T0, b1)) ∨
  (∃ T0, (f i).toInt = 500 ∧ T = true :: T0 ∧ ∃ b1 : Bool, (b1 = true → b = true) ∧ ty (i + 1) = some (T0, b1)) ∨
  (∃ T0, (f i).toInt = 501 ∧ i + 1 < n ∧ T = false :: T0 ∧ ∃ b1 : Bool, (b1 = true → b = true) ∧ ty (i + 2) = some (T0, b1) ∧ ∃ t : Nat, (f (i + 1)).toInt = (t : Int) ∧ JT ty n i b T0 t) ∨
  ((f i).toInt = 502 ∧ i + 1 < n ∧ ∃ t : Nat, (f (i + 1)).toInt = (t : Int) ∧ JT ty n i b T t) ∨
  (∃ T0, 1 ≤ (f i).toInt ∧ (f i).toInt ≤ 6 ∧ T = true :: true :: T0 ∧ ∃ b1 : Bool, (b1 = true → b = true) ∧ ty (i + 1) = some (true :: T0, b1)) ∨
  (∃ T0, (f i).toInt = 7 ∧ T = true :: T0 ∧ ∃ b1 : Bool, (b1 = true → b = true) ∧ ty (i + 1) = some (true :: T0, b1)) ∨
  (∃ T0, 11 ≤ (f i).toInt ∧ (f i).toInt ≤ 13 ∧ T = true :: true :: T0 ∧ ∃ b' : Bool, ty (i + 1) = some (false :: T0, b')) ∨
  (∃ T0, 14 ≤ (f i).toInt ∧ (f i).toInt ≤ 15 ∧ T = false :: false :: T0 ∧ ∃ b1 : Bool, (b1 = true → b = true) ∧ ty (i + 1) = some (false :: T0, b1)) ∨
  (∃ T0, (f i).toInt = 16 ∧ T = false :: T0 ∧ ∃ b1 : Bool, (b1 = true → b = true) ∧ ty (i + 1) = some (false :: T0, b1))
/-- code of n words whose types are ty, with nk numbers -/
def WC (f : Nat → Int32) (n : Nat) (nk : Int) (ty : Nat → Option (List Bool × Bool)) : Prop := (∃ b0 : Bool, ty 0 = some ([], b0)) ∧ (∀ i T b, ty i = some (T, b) → T.length ≤ i ∧ i ≤ n) ∧ ∀ i T b, i < n → ty i = some (T, b) → SOK f n nk ty i T b
/-- what falls in a run -/
def MU (i : Nat) (b : Bool) (st : Int) : Int := (1000 - st) * 2402 + (if b = true then 1201 else 0) + (1200 - (i : Int))
theorem MU_0 (i : Nat) (b : Bool) (st : Int) : (1000 - st) * 2402 + (1200 - (i : Int)) ≤ MU i b st ∧ MU i b st ≤ (1000 - st) * 2402 + 1201 + (1200 - (i : Int)) := by
  unfold MU
  cases b <;> simp <;> omega
theorem MU_next {i : Nat} {b : Bool} {st st' : Int} (h : st' = st) : MU (i + 1) b st' < MU i b st := by
  unfold MU; subst h
  push_cast
  omega
theorem MU_jump {ty : Nat → Option (List Bool × Bool)} {n i t : Nat} {b b' : Bool} {T : List Bool} {st : Int} (hn : n ≤ 1200) (hi : i ≤ n) (ht : t ≤ n) (h : (i < t ∧ (b' = true → b = true)) ∨ (b = true ∧ b' = false)) : MU t b' st < MU i b st := by
  unfold MU
  rcases h with ⟨h1, h2⟩ | ⟨h1, h2⟩
  · cases b' <;> cases b <;> simp at h2 ⊢ <;> omega
  · subst h1 h2; simp; omega
theorem MU_step {i j : Nat} {b b' : Bool} {st st' : Int} (h : st' = st + 1) (hj : j = i + 1) (hi : i ≤ 1200) : MU j b' st' < MU i b st := by
  have h1 := (MU_0 j b' st').2
  have h2 := (MU_0 i b st).1
  subst h hj
  push_cast at *
  omega
theorem x_l2i {v : Int64} {x : Int32} (e : x = v.toInt32) (h0 : -2147483648 ≤ v.toInt) (h1 : v.toInt < 2147483648) : x.toInt = v.toInt := by
  rw [e, Int64.toInt_toInt32]
  exact Int.bmod_eq_of_le (by omega) (by omega)
theorem x_and01 {x z v : Int32} (e : v = x &&& z) (hx : x.toInt = 0 ∨ x.toInt = 1) (hz : z.toInt = 0 ∨ z.toInt = 1) : v.toInt = 0 ∨ v.toInt = 1 := by
  have k0 : (0 : Int32).toInt = 0 := rfl
  have k1 : (1 : Int32).toInt = 1 := rfl
  rcases hx with hx | hx <;> rcases hz with hz | hz <;> rw [← k0] at * <;> rw [← k1] at * <;> (have a := Int32.toInt_inj.mp hx; have c := Int32.toInt_inj.mp hz; subst a c; rw [e]; decide)
theorem x_or01 {x z v : Int32} (e : v = x ||| z) (hx : x.toInt = 0 ∨ x.toInt = 1) (hz : z.toInt = 0 ∨ z.toInt = 1) : v.toInt = 0 ∨ v.toInt = 1 := by
  have k0 : (0 : Int32).toInt = 0 := rfl
  have k1 : (1 : Int32).toInt = 1 := rfl
  rcases hx with hx | hx <;> rcases hz with hz | hz <;> rw [← k0] at * <;> rw [← k1] at * <;> (have a := Int32.toInt_inj.mp hx; have c := Int32.toInt_inj.mp hz; subst a c; rw [e]; decide)

theorem dX12_placeOf_0 : decode cX12_placeOf 0 = .ok (.aload_n 0, 1) := by decide +kernel
theorem dX12_placeOf_1 : decode cX12_placeOf 1 = .ok (.dup, 1) := by decide +kernel
theorem dX12_placeOf_2 : decode cX12_placeOf 2 = .ok (.getfield 421, 3) := by decide +kernel
theorem dX12_placeOf_5 : decode cX12_placeOf 5 = .ok (.iconst 1, 1) := by decide +kernel
theorem dX12_placeOf_6 : decode cX12_placeOf 6 = .ok (.isub, 1) := by decide +kernel
theorem dX12_placeOf_7 : decode cX12_placeOf 7 = .ok (.putfield 421, 3) := by decide +kernel
theorem dX12_placeOf_10 : decode cX12_placeOf 10 = .ok (.aload_n 0, 1) := by decide +kernel
theorem dX12_placeOf_11 : decode cX12_placeOf 11 = .ok (.getfield 124, 3) := by decide +kernel
theorem dX12_placeOf_14 : decode cX12_placeOf 14 = .ok (.sipush 1760, 3) := by decide +kernel
theorem dX12_placeOf_17 : decode cX12_placeOf 17 = .ok (.iload_n 1, 1) := by decide +kernel
theorem dX12_placeOf_18 : decode cX12_placeOf 18 = .ok (.imul, 1) := by decide +kernel
theorem dX12_placeOf_19 : decode cX12_placeOf 19 = .ok (.aload_n 0, 1) := by decide +kernel
theorem dX12_placeOf_20 : decode cX12_placeOf 20 = .ok (.getfield 160, 3) := by decide +kernel
theorem dX12_placeOf_23 : decode cX12_placeOf 23 = .ok (.aload_n 0, 1) := by decide +kernel
theorem dX12_placeOf_24 : decode cX12_placeOf 24 = .ok (.getfield 421, 3) := by decide +kernel
theorem dX12_placeOf_27 : decode cX12_placeOf 27 = .ok (.iaload, 1) := by decide +kernel
theorem dX12_placeOf_28 : decode cX12_placeOf 28 = .ok (.iadd, 1) := by decide +kernel
theorem dX12_placeOf_29 : decode cX12_placeOf 29 = .ok (.laload, 1) := by decide +kernel
theorem dX12_placeOf_30 : decode cX12_placeOf 30 = .ok (.lstore_n 3, 1) := by decide +kernel
theorem dX12_placeOf_31 : decode cX12_placeOf 31 = .ok (.aload_n 0, 1) := by decide +kernel
theorem dX12_placeOf_32 : decode cX12_placeOf 32 = .ok (.getfield 127, 3) := by decide +kernel
theorem dX12_placeOf_35 : decode cX12_placeOf 35 = .ok (.sipush 1760, 3) := by decide +kernel
theorem dX12_placeOf_38 : decode cX12_placeOf 38 = .ok (.iload_n 1, 1) := by decide +kernel
theorem dX12_placeOf_39 : decode cX12_placeOf 39 = .ok (.imul, 1) := by decide +kernel
theorem dX12_placeOf_40 : decode cX12_placeOf 40 = .ok (.aload_n 0, 1) := by decide +kernel
theorem dX12_placeOf_41 : decode cX12_placeOf 41 = .ok (.getfield 160, 3) := by decide +kernel
theorem dX12_placeOf_44 : decode cX12_placeOf 44 = .ok (.aload_n 0, 1) := by decide +kernel
theorem dX12_placeOf_45 : decode cX12_placeOf 45 = .ok (.getfield 421, 3) := by decide +kernel
theorem dX12_placeOf_48 : decode cX12_placeOf 48 = .ok (.iaload, 1) := by decide +kernel
theorem dX12_placeOf_49 : decode cX12_placeOf 49 = .ok (.iadd, 1) := by decide +kernel
theorem dX12_placeOf_50 : decode cX12_placeOf 50 = .ok (.laload, 1) := by decide +kernel
theorem dX12_placeOf_51 : decode cX12_placeOf 51 = .ok (.lconst 1, 1) := by decide +kernel
theorem dX12_placeOf_52 : decode cX12_placeOf 52 = .ok (.lcmp, 1) := by decide +kernel
theorem dX12_placeOf_53 : decode cX12_placeOf 53 = .ok (.ifCond .ne 22, 3) := by decide +kernel
theorem dX12_placeOf_56 : decode cX12_placeOf 56 = .ok (.lload_n 3, 1) := by decide +kernel
theorem dX12_placeOf_57 : decode cX12_placeOf 57 = .ok (.lconst 0, 1) := by decide +kernel
theorem dX12_placeOf_58 : decode cX12_placeOf 58 = .ok (.aload_n 0, 1) := by decide +kernel
theorem dX12_placeOf_59 : decode cX12_placeOf 59 = .ok (.getfield 63, 3) := by decide +kernel
theorem dX12_placeOf_62 : decode cX12_placeOf 62 = .ok (.iconst 4, 1) := by decide +kernel
theorem dX12_placeOf_63 : decode cX12_placeOf 63 = .ok (.iload_n 2, 1) := by decide +kernel
theorem dX12_placeOf_64 : decode cX12_placeOf 64 = .ok (.iadd, 1) := by decide +kernel
theorem dX12_placeOf_65 : decode cX12_placeOf 65 = .ok (.iaload, 1) := by decide +kernel
theorem dX12_placeOf_66 : decode cX12_placeOf 66 = .ok (.iconst 1, 1) := by decide +kernel
theorem dX12_placeOf_67 : decode cX12_placeOf 67 = .ok (.isub, 1) := by decide +kernel
theorem dX12_placeOf_68 : decode cX12_placeOf 68 = .ok (.i2l, 1) := by decide +kernel
theorem dX12_placeOf_69 : decode cX12_placeOf 69 = .ok (.invokestatic 231, 3) := by decide +kernel
theorem dX12_placeOf_72 : decode cX12_placeOf 72 = .ok (.ifCond .ne 12, 3) := by decide +kernel
theorem dX12_placeOf_75 : decode cX12_placeOf 75 = .ok (.aload_n 0, 1) := by decide +kernel
theorem dX12_placeOf_76 : decode cX12_placeOf 76 = .ok (.getfield 154, 3) := by decide +kernel
theorem dX12_placeOf_79 : decode cX12_placeOf 79 = .ok (.iload_n 1, 1) := by decide +kernel
theorem dX12_placeOf_80 : decode cX12_placeOf 80 = .ok (.iconst 1, 1) := by decide +kernel
theorem dX12_placeOf_81 : decode cX12_placeOf 81 = .ok (.iastore, 1) := by decide +kernel
theorem dX12_placeOf_82 : decode cX12_placeOf 82 = .ok (.iconst (-1), 1) := by decide +kernel
theorem dX12_placeOf_83 : decode cX12_placeOf 83 = .ok (.ireturn, 1) := by decide +kernel
theorem dX12_placeOf_84 : decode cX12_placeOf 84 = .ok (.bipush 20, 2) := by decide +kernel
theorem dX12_placeOf_86 : decode cX12_placeOf 86 = .ok (.bipush 16, 2) := by decide +kernel
theorem dX12_placeOf_88 : decode cX12_placeOf 88 = .ok (.iload_n 2, 1) := by decide +kernel
theorem dX12_placeOf_89 : decode cX12_placeOf 89 = .ok (.imul, 1) := by decide +kernel
theorem dX12_placeOf_90 : decode cX12_placeOf 90 = .ok (.iadd, 1) := by decide +kernel
theorem dX12_placeOf_91 : decode cX12_placeOf 91 = .ok (.lload_n 3, 1) := by decide +kernel
theorem dX12_placeOf_92 : decode cX12_placeOf 92 = .ok (.l2i, 1) := by decide +kernel
theorem dX12_placeOf_93 : decode cX12_placeOf 93 = .ok (.iadd, 1) := by decide +kernel
theorem dX12_placeOf_94 : decode cX12_placeOf 94 = .ok (.ireturn, 1) := by decide +kernel
def v_q_placeOf0 : List Cond := .code yX12_placeOf cX12_placeOf 5 (some .int) :: ([.fieldLink RX12 421 "SlopeRunnerModel" "piled" "I", .fieldLink RX12 124 "SlopeRunnerModel" "valueAbove" "[J", .fieldLink RX12 160 "SlopeRunnerModel" "pile" "[I", .fieldLink RX12 127 "SlopeRunnerModel" "valueBelow" "[J", .fieldLink RX12 154 "SlopeRunnerModel" "state" "[I", .fieldLink RX12 63 "SlopeRunnerModel" "sizeOf" "[I"] ++ ((wsS RX12 231 yX12_isIn v_q_isIn) ++ wsX120))
theorem g_q_placeOf0_0 : GoodIn v_q_placeOf0 (wsS RX12 231 yX12_isIn v_q_isIn) := goodIn_sub (fun w h => List.mem_cons_of_mem _ (List.mem_append_right _ (List.mem_append_left _ h))) (by decide +kernel)
set_option maxHeartbeats 4000000 in
set_option maxRecDepth 100000 in
theorem q_placeOf0 (l : Launch) (D : va_G) (y : Nat → ClassId) (sz : Nat) (ad : Nat → Nat) (zw : Nat → Nat → Int32) (σ : OS) (k : Int32) (hk0 : 0 ≤ k.toInt) (hk1 : k.toInt ≤ 3) (T : List Bool) (hp : (σ.1 73).toInt = (T.length : Int) + 1) (hT : T.length ≤ 700) (hPT : PT (true :: T) (σ.2.2.1 72) (σ.2.2.1 62 0).toInt) (hl1 : (σ.2.2.1 62 0).toInt ≤ 1760) (hB57 : bJ (σ.2.2.2 57) (-1000000000) 1000000000) (hB58 : bJ (σ.2.2.2 58) 0 1000000000) (hB25 : bI (σ.2.2.1 25) 0 16) : Met l yX12_placeOf v_q_placeOf0 ({ frames := 1, cells := 0, slots := 0, locals := 25 } : Room) (va_Pc [.ref (ad 1), .int 0, .int k] (xPre D (xT y) (mwd y ad zw σ) sz)) (va_Qi (fun (r : Int32) (u : Int32 × (Nat → Int32)) => u.1.toInt = (T.length : Int) ∧ ((r.toInt = -1 ∧ (u.2 0).toInt ≠ 0) ∨ (20 ≤ r.toInt ∧ r.toInt ≤ 83 ∧ u.2 = σ.2.2.1 67))) (fun (u : Int32 × (Nat → Int32)) => xB D (xT y) (va_A (mwd y ad zw σ) sz) (mwd y ad zw (tI (sI σ 73 u.1) 67 u.2))) (va_A (mwd y ad zw σ) sz)) 0 0 (va_A (mwd y ad zw σ) sz) := by
  refine x_meti (cc := cX12_placeOf) (maxL := 5) (by decide) rfl (Nat.le_of_ble_eq_true rfl) ?_
  intro p e s m below meth c A H locs Q hx hb hml hown hts hr hlocks hmn hA hP hK hD hS ls hl hQ
  have hl : lv_has ls 5 [(0, .ref (ad 1)), (1, .int 0), (2, .int k)] := hl
  have fl421 := hts (.fieldLink RX12 421 "SlopeRunnerModel" "piled" "I") (List.mem_of_getElem? (i := 1) rfl)
  have inX12 : ∀ w ∈ wsX120, w ∈ v_q_placeOf0 := (fun w h => List.mem_cons_of_mem _ (List.mem_append_right _ (List.mem_append_right _ h)))
  have kk_1 : (1 : Int32).toInt = 1 := rfl
  have fl124 := hts (.fieldLink RX12 124 "SlopeRunnerModel" "valueAbove" "[J") (List.mem_of_getElem? (i := 2) rfl)
  have fl160 := hts (.fieldLink RX12 160 "SlopeRunnerModel" "pile" "[I") (List.mem_of_getElem? (i := 3) rfl)
  have kk_0 : (0 : Int32).toInt = 0 := rfl
  have fl127 := hts (.fieldLink RX12 127 "SlopeRunnerModel" "valueBelow" "[J") (List.mem_of_getElem? (i := 4) rfl)
  have fl154 := hts (.fieldLink RX12 154 "SlopeRunnerModel" "state" "[I") (List.mem_of_getElem? (i := 5) rfl)
  have kk_m1 : ((-1) : Int32).toInt = -1 := rfl
  have fl63 := hts (.fieldLink RX12 63 "SlopeRunnerModel" "sizeOf" "[I") (List.mem_of_getElem? (i := 6) rfl)
  have kk_4 : (4 : Int32).toInt = 4 := rfl
  have kl_0 : (0 : Int64).toInt = 0 := rfl
  have kk_16 : (16 : Int32).toInt = 16 := rfl
  have kk_20 : (20 : Int32).toInt = 20 := rfl
  refine lv_aload_n hx hb dX12_placeOf_0 rfl (lv_at hl 0 rfl) ?_
  refine lv_dup hx hb dX12_placeOf_1 rfl ?_
  refine va_get (D := D) (ci := 11) (v := .int (σ.1 73)) (C := RX12) (T := TX12) (N := 85) hx hb hts inX12 hown hK hP 0 mwd_o0 rfl 73 (by decide) fl421 (fun _ h9 => h9) rfl dX12_placeOf_2 ?_
  refine lv_iconst (v := 1) hx hb dX12_placeOf_5 (by decide) ?_
  refine lv_isub hx hb dX12_placeOf_6 ?_
  refine lv_topi (fun i_1 ei_1 => ?_)
  have vi_1 : i_1.toInt = (σ.1 73).toInt - 1 := by have h9 := x_sub ei_1 (by omega) (by omega); omega
  refine va_put (D := D) (ci := 11) (v := .int i_1) (ty := .int) (C := RX12) (T := TX12) (N := 85) hx hb hts inX12 tyX12 tyX12_ok nmX12 hown hK hP hD hS 0 mwd_o0 rfl 73 (by decide) fl421 (fun _ h9 => h9) rfl (by decide +kernel) rfl rfl (Nat.le_of_ble_eq_true rfl) dX12_placeOf_7 (fun H locs hP hD hS => ?_)
  have hP : va_P D vwCl (mwd y ad zw (sI σ 73 i_1)) H := x_trP hP mwd_p0_73
  have hD : va_D A (mwd y ad zw (sI σ 73 i_1)) := x_trD hD mwd_p0_73
  refine lv_aload_n hx hb dX12_placeOf_10 rfl (lv_at hl 0 rfl) ?_
  refine va_get (D := D) (ci := 11) (v := .ref (ad 57)) (C := RX12) (T := TX12) (N := 85) hx hb hts inX12 hown hK hP 0 mwd_o0 rfl 57 (by decide) fl124 (fun _ h9 => h9) rfl dX12_placeOf_11 ?_
  refine lv_sipush (v := 1760) hx hb dX12_placeOf_14 (by decide) ?_
  refine lv_iload_n hx hb dX12_placeOf_17 rfl (lv_at hl 1 rfl) ?_
  refine lv_imul hx hb dX12_placeOf_18 ?_
  refine lv_topi (fun i_2 ei_2 => ?_)
  obtain rfl : i_2 = 0 := ei_2.trans (by decide)
  refine lv_aload_n hx hb dX12_placeOf_19 rfl (lv_at hl 0 rfl) ?_
  refine va_get (D := D) (ci := 11) (v := .ref (ad 72)) (C := RX12) (T := TX12) (N := 85) hx hb hts inX12 hown hK hP 0 mwd_o0 rfl 72 (by decide) fl160 (fun _ h9 => h9) rfl dX12_placeOf_20 ?_
  refine lv_aload_n hx hb dX12_placeOf_23 rfl (lv_at hl 0 rfl) ?_
  refine va_get (D := D) (ci := 11) (v := .int i_1) (C := RX12) (T := TX12) (N := 85) hx hb hts inX12 hown hK hP 0 mwd_o0 rfl 73 (by decide) fl421 (fun _ h9 => h9) rfl dX12_placeOf_24 ?_
  refine va_iald hx hb hK hP 49 2 mwd_a49 rfl (x_in (by omega) (by omega)) dX12_placeOf_27 ?_
  refine lv_topi (fun i_3 ei_3 => ?_)
  have ei_3 : i_3 = (σ.2.2.1 72) (Int32.toNatClampNeg i_1) := ei_3
  have gi_3 := PT_N hPT ei_3 (x_cl (by omega))
  refine lv_iadd hx hb dX12_placeOf_28 ?_
  refine lv_topi (fun i_4 ei_4 => ?_)
  have vi_4 : i_4.toInt = 0 + i_3.toInt := by have h9 := x_add ei_4 (by omega) (by omega); omega
  refine va_lald hx hb hK hP 37 3 mwd_a37 rfl (x_in (by omega) (by omega)) dX12_placeOf_29 ?_
  refine lv_topl (fun j_5 ej_5 => ?_)
  have ej_5 : j_5 = (σ.2.2.2 57) (Int32.toNatClampNeg i_4) := ej_5
  have bj_5 := b_atJ hB57 ej_5
  refine lv_lstore_n (lv' := [(3, .long j_5), (0, .ref (ad 1)), (1, .int 0), (2, .int k)]) hx hb dX12_placeOf_30 rfl hl (by decide) rfl (fun ls hl => ?_)
  refine lv_aload_n hx hb dX12_placeOf_31 rfl (lv_at hl 1 rfl) ?_
  refine va_get (D := D) (ci := 11) (v := .ref (ad 58)) (C := RX12) (T := TX12) (N := 85) hx hb hts inX12 hown hK hP 0 mwd_o0 rfl 58 (by decide) fl127 (fun _ h9 => h9) rfl dX12_placeOf_32 ?_
  refine lv_sipush (v := 1760) hx hb dX12_placeOf_35 (by decide) ?_
  refine lv_iload_n hx hb dX12_placeOf_38 rfl (lv_at hl 2 rfl) ?_
  refine lv_imul hx hb dX12_placeOf_39 ?_
  refine lv_topi (fun i_6 ei_6 => ?_)
  obtain rfl : i_6 = 0 := ei_6.trans (by decide)
  refine lv_aload_n hx hb dX12_placeOf_40 rfl (lv_at hl 1 rfl) ?_
  refine va_get (D := D) (ci := 11) (v := .ref (ad 72)) (C := RX12) (T := TX12) (N := 85) hx hb hts inX12 hown hK hP 0 mwd_o0 rfl 72 (by decide) fl160 (fun _ h9 => h9) rfl dX12_placeOf_41 ?_
  refine lv_aload_n hx hb dX12_placeOf_44 rfl (lv_at hl 1 rfl) ?_
  refine va_get (D := D) (ci := 11) (v := .int i_1) (C := RX12) (T := TX12) (N := 85) hx hb hts inX12 hown hK hP 0 mwd_o0 rfl 73 (by decide) fl421 (fun _ h9 => h9) rfl dX12_placeOf_45 ?_
  refine va_iald hx hb hK hP 49 2 mwd_a49 rfl (x_in (by omega) (by omega)) dX12_placeOf_48 ?_
  refine lv_topi (fun i_7 ei_7 => ?_)
  have ei_7 : i_7 = (σ.2.2.1 72) (Int32.toNatClampNeg i_1) := ei_7
  have gi_7 := PT_N hPT ei_7 (x_cl (by omega))
  refine lv_iadd hx hb dX12_placeOf_49 ?_
  refine lv_topi (fun i_8 ei_8 => ?_)
  have vi_8 : i_8.toInt = 0 + i_7.toInt := by have h9 := x_add ei_8 (by omega) (by omega); omega
  refine va_lald hx hb hK hP 38 3 mwd_a38 rfl (x_in (by omega) (by omega)) dX12_placeOf_50 ?_
  refine lv_topl (fun j_9 ej_9 => ?_)
  have ej_9 : j_9 = (σ.2.2.2 58) (Int32.toNatClampNeg i_8) := ej_9
  have bj_9 := b_atJ hB58 ej_9
  refine lv_lconst (v := 1) hx hb dX12_placeOf_51 (by decide) ?_
  refine W.lcmp hx hb dX12_placeOf_52 ?_
  refine lv_if_ne (tgt := 75) hx hb dX12_placeOf_53 (by decide) (fun c_10 => ?_) (fun c_10 => ?_)
  · have kc_10 : j_9.toInt ≠ 1 := by have h9 := x_tri j_9 (1 : Int64); (try simp only [Int64.reduceToInt] at h9); rcases h9 with ⟨g1, g2⟩ | ⟨g1, g2⟩ | ⟨g1, g2⟩ <;> first | omega | (exfalso; rw [g1] at c_10; revert c_10; decide)
    refine lv_aload_n hx hb dX12_placeOf_75 rfl (lv_at hl 1 rfl) ?_
    refine va_get (D := D) (ci := 11) (v := .ref (ad 67)) (C := RX12) (T := TX12) (N := 85) hx hb hts inX12 hown hK hP 0 mwd_o0 rfl 67 (by decide) fl154 (fun _ h9 => h9) rfl dX12_placeOf_76 ?_
    refine lv_iload_n hx hb dX12_placeOf_79 rfl (lv_at hl 2 rfl) ?_
    refine lv_iconst (v := 1) hx hb dX12_placeOf_80 (by decide) ?_
    refine va_iast hx hb hK hP hD hS 47 2 mwd_a47 rfl (x_in (by decide) (by decide)) dX12_placeOf_81 (fun H locs hP hD hS => ?_)
    obtain ⟨f_11, ef_11⟩ : ∃ z9 : Nat → Int32, z9 = (upd (σ.2.2.1 67) (Int32.toNatClampNeg 0) 1) := ⟨_, rfl⟩
    have hP : va_P D vwCl (mwd y ad zw (tI (sI σ 73 i_1) 67 f_11)) H := by rw [ef_11]; exact x_trP hP mwd_s47
    have hD : va_D A (mwd y ad zw (tI (sI σ 73 i_1) 67 f_11)) := by rw [ef_11]; exact x_trD hD mwd_s47
    refine lv_iconst (v := (-1)) hx hb dX12_placeOf_82 (by decide) ?_
    exact x_iretW (v := (-1)) (u := (i_1, f_11)) hx hb hr hQ (by (try dsimp only); exact ⟨by omega, Or.inl ⟨by omega, by rw [ef_11]; show (upd _ 0 _ 0).toInt ≠ 0; rw [x_upd_same]; decide⟩⟩) hP hD hK hS dX12_placeOf_83 hlocks
  · have kc_10 : j_9.toInt = 1 := by have h9 := x_tri j_9 (1 : Int64); (try simp only [Int64.reduceToInt] at h9); rcases h9 with ⟨g1, g2⟩ | ⟨g1, g2⟩ | ⟨g1, g2⟩ <;> first | omega | (exfalso; rw [g1] at c_10; revert c_10; decide)
    refine lv_lload_n hx hb dX12_placeOf_56 rfl (lv_at hl 0 rfl) ?_
    refine lv_lconst (v := 0) hx hb dX12_placeOf_57 (by decide) ?_
    refine lv_aload_n hx hb dX12_placeOf_58 rfl (lv_at hl 1 rfl) ?_
    refine va_get (D := D) (ci := 11) (v := .ref (ad 25)) (C := RX12) (T := TX12) (N := 85) hx hb hts inX12 hown hK hP 0 mwd_o0 rfl 25 (by decide) fl63 (fun _ h9 => h9) rfl dX12_placeOf_59 ?_
    refine lv_iconst (v := 4) hx hb dX12_placeOf_62 (by decide) ?_
    refine lv_iload_n hx hb dX12_placeOf_63 rfl (lv_at hl 3 rfl) ?_
    refine lv_iadd hx hb dX12_placeOf_64 ?_
    refine lv_topi (fun i_12 ei_12 => ?_)
    have vi_12 : i_12.toInt = 4 + k.toInt := by have h9 := x_add ei_12 (by omega) (by omega); omega
    refine va_iald hx hb hK hP 17 2 mwd_a17 rfl (x_in (by omega) (by omega)) dX12_placeOf_65 ?_
    refine lv_topi (fun i_13 ei_13 => ?_)
    have ei_13 : i_13 = (σ.2.2.1 25) (Int32.toNatClampNeg i_12) := ei_13
    have bi_13 := b_at hB25 ei_13
    refine lv_iconst (v := 1) hx hb dX12_placeOf_66 (by decide) ?_
    refine lv_isub hx hb dX12_placeOf_67 ?_
    refine lv_topi (fun i_14 ei_14 => ?_)
    have vi_14 : i_14.toInt = i_13.toInt - 1 := by have h9 := x_sub ei_14 (by omega) (by omega); omega
    refine lv_i2l hx hb dX12_placeOf_68 rfl ?_
    refine lv_topl (fun j_15 ej_15 => ?_)
    have vj_15 : j_15.toInt = i_14.toInt := by rw [ej_15]; exact Int32.toInt_toInt64 _
    refine x_calliN (va_runS (As := [.long j_5, .long 0, .long j_15]) (rest := []) ⟨hx, hb, hml, hown, hts⟩ (q_isIn l D y H.size j_5 0 j_15) (cwS 3 hts g_q_placeOf0_0 rfl rfl rfl (by decide +kernel) ⟨Nat.le_of_ble_eq_true rfl, Nat.le_of_ble_eq_true rfl⟩) (x_preS hK (x_nilP D H) (x_nilD A)) rfl rfl hl.1 rfl (lv_room (Nat.le_of_ble_eq_true rfl)) dX12_placeOf_69 ⟨Nat.le_of_ble_eq_true rfl, Nat.le_of_ble_eq_true rfl⟩) hP hD hS hA (fun r_16 u H locs hw hP hD hS => ?_)
    try dsimp only at hw
    refine lv_if_ne (tgt := 84) hx hb dX12_placeOf_72 (by decide) (fun c_17 => ?_) (fun c_17 => ?_)
    · have kc_17 : r_16.toInt ≠ 0 := by have h9 := c_17; simp only [ge_iff_le, gt_iff_lt, x_lt, x_le, x_eq, ne_eq, Int32.not_lt, Int32.not_le] at h9; simp only [Int32.reduceToInt] at h9; omega
      refine lv_bipush (v := 20) hx hb dX12_placeOf_84 (by decide) ?_
      refine lv_bipush (v := 16) hx hb dX12_placeOf_86 (by decide) ?_
      refine lv_iload_n hx hb dX12_placeOf_88 rfl (lv_at hl 3 rfl) ?_
      refine lv_imul hx hb dX12_placeOf_89 ?_
      refine lv_topi (fun i_18 ei_18 => ?_)
      have vi_18 : i_18.toInt = 16 * k.toInt := by have h9 := x_mulIl (n := 16) ei_18 rfl (by omega) (by omega); omega
      refine lv_iadd hx hb dX12_placeOf_90 ?_
      refine lv_topi (fun i_19 ei_19 => ?_)
      have vi_19 : i_19.toInt = 20 + i_18.toInt := by have h9 := x_add ei_19 (by omega) (by omega); omega
      refine lv_lload_n hx hb dX12_placeOf_91 rfl (lv_at hl 0 rfl) ?_
      refine lv_l2i hx hb dX12_placeOf_92 rfl ?_
      refine lv_topi (fun i_20 ei_20 => ?_)
      have vi_20 := x_l2i ei_20 (by omega) (by omega)
      refine lv_iadd hx hb dX12_placeOf_93 ?_
      refine lv_topi (fun i_21 ei_21 => ?_)
      have vi_21 : i_21.toInt = i_19.toInt + i_20.toInt := by have h9 := x_add ei_21 (by omega) (by omega); omega
      have hP : va_P D vwCl (mwd y ad zw (tI (sI σ 73 i_1) 67 (σ.2.2.1 67))) H := hP
      have hD : va_D A (mwd y ad zw (tI (sI σ 73 i_1) 67 (σ.2.2.1 67))) := hD
      exact x_iretW (v := i_21) (u := (i_1, (σ.2.2.1 67))) hx hb hr hQ (by (try dsimp only); exact ⟨by omega, Or.inr ⟨by omega, by omega, rfl⟩⟩) hP hD hK hS dX12_placeOf_94 hlocks
    · have kc_17 : r_16.toInt = 0 := by have h9 := c_17; simp only [ge_iff_le, gt_iff_lt, x_lt, x_le, x_eq, ne_eq, Int32.not_lt, Int32.not_le] at h9; simp only [Int32.reduceToInt] at h9; omega
      refine lv_aload_n hx hb dX12_placeOf_75 rfl (lv_at hl 1 rfl) ?_
      refine va_get (D := D) (ci := 11) (v := .ref (ad 67)) (C := RX12) (T := TX12) (N := 85) hx hb hts inX12 hown hK hP 0 mwd_o0 rfl 67 (by decide) fl154 (fun _ h9 => h9) rfl dX12_placeOf_76 ?_
      refine lv_iload_n hx hb dX12_placeOf_79 rfl (lv_at hl 2 rfl) ?_
      refine lv_iconst (v := 1) hx hb dX12_placeOf_80 (by decide) ?_
      refine va_iast hx hb hK hP hD hS 47 2 mwd_a47 rfl (x_in (by decide) (by decide)) dX12_placeOf_81 (fun H locs hP hD hS => ?_)
      obtain ⟨f_22, ef_22⟩ : ∃ z9 : Nat → Int32, z9 = (upd (σ.2.2.1 67) (Int32.toNatClampNeg 0) 1) := ⟨_, rfl⟩
      have hP : va_P D vwCl (mwd y ad zw (tI (sI σ 73 i_1) 67 f_22)) H := by rw [ef_22]; exact x_trP hP mwd_s47
      have hD : va_D A (mwd y ad zw (tI (sI σ 73 i_1) 67 f_22)) := by rw [ef_22]; exact x_trD hD mwd_s47
      refine lv_iconst (v := (-1)) hx hb dX12_placeOf_82 (by decide) ?_
      exact x_iretW (v := (-1)) (u := (i_1, f_22)) hx hb hr hQ (by (try dsimp only); exact ⟨by omega, Or.inl ⟨by omega, by rw [ef_22]; show (upd _ 0 _ 0).toInt ≠ 0; rw [x_upd_same]; decide⟩⟩) hP hD hK hS dX12_placeOf_83 hlocks

def v_q_placeOf1 : List Cond := .code yX12_placeOf cX12_placeOf 5 (some .int) :: ([.fieldLink RX12 421 "SlopeRunnerModel" "piled" "I", .fieldLink RX12 124 "SlopeRunnerModel" "valueAbove" "[J", .fieldLink RX12 160 "SlopeRunnerModel" "pile" "[I", .fieldLink RX12 127 "SlopeRunnerModel" "valueBelow" "[J", .fieldLink RX12 154 "SlopeRunnerModel" "state" "[I", .fieldLink RX12 63 "SlopeRunnerModel" "sizeOf" "[I"] ++ ((wsS RX12 231 yX12_isIn v_q_isIn) ++ wsX120))
theorem g_q_placeOf1_0 : GoodIn v_q_placeOf1 (wsS RX12 231 yX12_isIn v_q_isIn) := goodIn_sub (fun w h => List.mem_cons_of_mem _ (List.mem_append_right _ (List.mem_append_left _ h))) (by decide +kernel)
set_option maxHeartbeats 4000000 in
set_option maxRecDepth 100000 in
theorem q_placeOf1 (l : Launch) (D : va_G) (y : Nat → ClassId) (sz : Nat) (ad : Nat → Nat) (zw : Nat → Nat → Int32) (σ : OS) (k : Int32) (hk0 : 0 ≤ k.toInt) (hk1 : k.toInt ≤ 3) (T : List Bool) (hp : (σ.1 73).toInt = (T.length : Int) + 1) (hT : T.length ≤ 700) (hPT : PT (true :: T) (σ.2.2.1 72) (σ.2.2.1 62 1).toInt) (hl1 : (σ.2.2.1 62 1).toInt ≤ 1760) (hB57 : bJ (σ.2.2.2 57) (-1000000000) 1000000000) (hB58 : bJ (σ.2.2.2 58) 0 1000000000) (hB25 : bI (σ.2.2.1 25) 0 16) : Met l yX12_placeOf v_q_placeOf1 ({ frames := 1, cells := 0, slots := 0, locals := 25 } : Room) (va_Pc [.ref (ad 1), .int 1, .int k] (xPre D (xT y) (mwd y ad zw σ) sz)) (va_Qi (fun (r : Int32) (u : Int32 × (Nat → Int32)) => u.1.toInt = (T.length : Int) ∧ ((r.toInt = -1 ∧ (u.2 1).toInt ≠ 0) ∨ (20 ≤ r.toInt ∧ r.toInt ≤ 83 ∧ u.2 = σ.2.2.1 67))) (fun (u : Int32 × (Nat → Int32)) => xB D (xT y) (va_A (mwd y ad zw σ) sz) (mwd y ad zw (tI (sI σ 73 u.1) 67 u.2))) (va_A (mwd y ad zw σ) sz)) 0 0 (va_A (mwd y ad zw σ) sz) := by
  refine x_meti (cc := cX12_placeOf) (maxL := 5) (by decide) rfl (Nat.le_of_ble_eq_true rfl) ?_
  intro p e s m below meth c A H locs Q hx hb hml hown hts hr hlocks hmn hA hP hK hD hS ls hl hQ
  have hl : lv_has ls 5 [(0, .ref (ad 1)), (1, .int 1), (2, .int k)] := hl
  have fl421 := hts (.fieldLink RX12 421 "SlopeRunnerModel" "piled" "I") (List.mem_of_getElem? (i := 1) rfl)
  have inX12 : ∀ w ∈ wsX120, w ∈ v_q_placeOf1 := (fun w h => List.mem_cons_of_mem _ (List.mem_append_right _ (List.mem_append_right _ h)))
  have kk_1 : (1 : Int32).toInt = 1 := rfl
  have fl124 := hts (.fieldLink RX12 124 "SlopeRunnerModel" "valueAbove" "[J") (List.mem_of_getElem? (i := 2) rfl)
  have fl160 := hts (.fieldLink RX12 160 "SlopeRunnerModel" "pile" "[I") (List.mem_of_getElem? (i := 3) rfl)
  have kk_1760 : (1760 : Int32).toInt = 1760 := rfl
  have fl127 := hts (.fieldLink RX12 127 "SlopeRunnerModel" "valueBelow" "[J") (List.mem_of_getElem? (i := 4) rfl)
  have fl154 := hts (.fieldLink RX12 154 "SlopeRunnerModel" "state" "[I") (List.mem_of_getElem? (i := 5) rfl)
  have kk_m1 : ((-1) : Int32).toInt = -1 := rfl
  have fl63 := hts (.fieldLink RX12 63 "SlopeRunnerModel" "sizeOf" "[I") (List.mem_of_getElem? (i := 6) rfl)
  have kk_4 : (4 : Int32).toInt = 4 := rfl
  have kl_0 : (0 : Int64).toInt = 0 := rfl
  have kk_0 : (0 : Int32).toInt = 0 := rfl
  have kk_16 : (16 : Int32).toInt = 16 := rfl
  have kk_20 : (20 : Int32).toInt = 20 := rfl
  refine lv_aload_n hx hb dX12_placeOf_0 rfl (lv_at hl 0 rfl) ?_
  refine lv_dup hx hb dX12_placeOf_1 rfl ?_
  refine va_get (D := D) (ci := 11) (v := .int (σ.1 73)) (C := RX12) (T := TX12) (N := 85) hx hb hts inX12 hown hK hP 0 mwd_o0 rfl 73 (by decide) fl421 (fun _ h9 => h9) rfl dX12_placeOf_2 ?_
  refine lv_iconst (v := 1) hx hb dX12_placeOf_5 (by decide) ?_
  refine lv_isub hx hb dX12_placeOf_6 ?_
  refine lv_topi (fun i_1 ei_1 => ?_)
  have vi_1 : i_1.toInt = (σ.1 73).toInt - 1 := by have h9 := x_sub ei_1 (by omega) (by omega); omega
  refine va_put (D := D) (ci := 11) (v := .int i_1) (ty := .int) (C := RX12) (T := TX12) (N := 85) hx hb hts inX12 tyX12 tyX12_ok nmX12 hown hK hP hD hS 0 mwd_o0 rfl 73 (by decide) fl421 (fun _ h9 => h9) rfl (by decide +kernel) rfl rfl (Nat.le_of_ble_eq_true rfl) dX12_placeOf_7 (fun H locs hP hD hS => ?_)
  have hP : va_P D vwCl (mwd y ad zw (sI σ 73 i_1)) H := x_trP hP mwd_p0_73
  have hD : va_D A (mwd y ad zw (sI σ 73 i_1)) := x_trD hD mwd_p0_73
  refine lv_aload_n hx hb dX12_placeOf_10 rfl (lv_at hl 0 rfl) ?_
  refine va_get (D := D) (ci := 11) (v := .ref (ad 57)) (C := RX12) (T := TX12) (N := 85) hx hb hts inX12 hown hK hP 0 mwd_o0 rfl 57 (by decide) fl124 (fun _ h9 => h9) rfl dX12_placeOf_11 ?_
  refine lv_sipush (v := 1760) hx hb dX12_placeOf_14 (by decide) ?_
  refine lv_iload_n hx hb dX12_placeOf_17 rfl (lv_at hl 1 rfl) ?_
  refine lv_imul hx hb dX12_placeOf_18 ?_
  refine lv_topi (fun i_2 ei_2 => ?_)
  obtain rfl : i_2 = 1760 := ei_2.trans (by decide)
  refine lv_aload_n hx hb dX12_placeOf_19 rfl (lv_at hl 0 rfl) ?_
  refine va_get (D := D) (ci := 11) (v := .ref (ad 72)) (C := RX12) (T := TX12) (N := 85) hx hb hts inX12 hown hK hP 0 mwd_o0 rfl 72 (by decide) fl160 (fun _ h9 => h9) rfl dX12_placeOf_20 ?_
  refine lv_aload_n hx hb dX12_placeOf_23 rfl (lv_at hl 0 rfl) ?_
  refine va_get (D := D) (ci := 11) (v := .int i_1) (C := RX12) (T := TX12) (N := 85) hx hb hts inX12 hown hK hP 0 mwd_o0 rfl 73 (by decide) fl421 (fun _ h9 => h9) rfl dX12_placeOf_24 ?_
  refine va_iald hx hb hK hP 49 2 mwd_a49 rfl (x_in (by omega) (by omega)) dX12_placeOf_27 ?_
  refine lv_topi (fun i_3 ei_3 => ?_)
  have ei_3 : i_3 = (σ.2.2.1 72) (Int32.toNatClampNeg i_1) := ei_3
  have gi_3 := PT_N hPT ei_3 (x_cl (by omega))
  refine lv_iadd hx hb dX12_placeOf_28 ?_
  refine lv_topi (fun i_4 ei_4 => ?_)
  have vi_4 : i_4.toInt = 1760 + i_3.toInt := by have h9 := x_add ei_4 (by omega) (by omega); omega
  refine va_lald hx hb hK hP 37 3 mwd_a37 rfl (x_in (by omega) (by omega)) dX12_placeOf_29 ?_
  refine lv_topl (fun j_5 ej_5 => ?_)
  have ej_5 : j_5 = (σ.2.2.2 57) (Int32.toNatClampNeg i_4) := ej_5
  have bj_5 := b_atJ hB57 ej_5
  refine lv_lstore_n (lv' := [(3, .long j_5), (0, .ref (ad 1)), (1, .int 1), (2, .int k)]) hx hb dX12_placeOf_30 rfl hl (by decide) rfl (fun ls hl => ?_)
  refine lv_aload_n hx hb dX12_placeOf_31 rfl (lv_at hl 1 rfl) ?_
  refine va_get (D := D) (ci := 11) (v := .ref (ad 58)) (C := RX12) (T := TX12) (N := 85) hx hb hts inX12 hown hK hP 0 mwd_o0 rfl 58 (by decide) fl127 (fun _ h9 => h9) rfl dX12_placeOf_32 ?_
  refine lv_sipush (v := 1760) hx hb dX12_placeOf_35 (by decide) ?_
  refine lv_iload_n hx hb dX12_placeOf_38 rfl (lv_at hl 2 rfl) ?_
  refine lv_imul hx hb dX12_placeOf_39 ?_
  refine lv_topi (fun i_6 ei_6 => ?_)
  obtain rfl : i_6 = 1760 := ei_6.trans (by decide)
  refine lv_aload_n hx hb dX12_placeOf_40 rfl (lv_at hl 1 rfl) ?_
  refine va_get (D := D) (ci := 11) (v := .ref (ad 72)) (C := RX12) (T := TX12) (N := 85) hx hb hts inX12 hown hK hP 0 mwd_o0 rfl 72 (by decide) fl160 (fun _ h9 => h9) rfl dX12_placeOf_41 ?_
  refine lv_aload_n hx hb dX12_placeOf_44 rfl (lv_at hl 1 rfl) ?_
  refine va_get (D := D) (ci := 11) (v := .int i_1) (C := RX12) (T := TX12) (N := 85) hx hb hts inX12 hown hK hP 0 mwd_o0 rfl 73 (by decide) fl421 (fun _ h9 => h9) rfl dX12_placeOf_45 ?_
  refine va_iald hx hb hK hP 49 2 mwd_a49 rfl (x_in (by omega) (by omega)) dX12_placeOf_48 ?_
  refine lv_topi (fun i_7 ei_7 => ?_)
  have ei_7 : i_7 = (σ.2.2.1 72) (Int32.toNatClampNeg i_1) := ei_7
  have gi_7 := PT_N hPT ei_7 (x_cl (by omega))
  refine lv_iadd hx hb dX12_placeOf_49 ?_
  refine lv_topi (fun i_8 ei_8 => ?_)
  have vi_8 : i_8.toInt = 1760 + i_7.toInt := by have h9 := x_add ei_8 (by omega) (by omega); omega
  refine va_lald hx hb hK hP 38 3 mwd_a38 rfl (x_in (by omega) (by omega)) dX12_placeOf_50 ?_
  refine lv_topl (fun j_9 ej_9 => ?_)
  have ej_9 : j_9 = (σ.2.2.2 58) (Int32.toNatClampNeg i_8) := ej_9
  have bj_9 := b_atJ hB58 ej_9
  refine lv_lconst (v := 1) hx hb dX12_placeOf_51 (by decide) ?_
  refine W.lcmp hx hb dX12_placeOf_52 ?_
  refine lv_if_ne (tgt := 75) hx hb dX12_placeOf_53 (by decide) (fun c_10 => ?_) (fun c_10 => ?_)
  · have kc_10 : j_9.toInt ≠ 1 := by have h9 := x_tri j_9 (1 : Int64); (try simp only [Int64.reduceToInt] at h9); rcases h9 with ⟨g1, g2⟩ | ⟨g1, g2⟩ | ⟨g1, g2⟩ <;> first | omega | (exfalso; rw [g1] at c_10; revert c_10; decide)
    refine lv_aload_n hx hb dX12_placeOf_75 rfl (lv_at hl 1 rfl) ?_
    refine va_get (D := D) (ci := 11) (v := .ref (ad 67)) (C := RX12) (T := TX12) (N := 85) hx hb hts inX12 hown hK hP 0 mwd_o0 rfl 67 (by decide) fl154 (fun _ h9 => h9) rfl dX12_placeOf_76 ?_
    refine lv_iload_n hx hb dX12_placeOf_79 rfl (lv_at hl 2 rfl) ?_
    refine lv_iconst (v := 1) hx hb dX12_placeOf_80 (by decide) ?_
    refine va_iast hx hb hK hP hD hS 47 2 mwd_a47 rfl (x_in (by decide) (by decide)) dX12_placeOf_81 (fun H locs hP hD hS => ?_)
    obtain ⟨f_11, ef_11⟩ : ∃ z9 : Nat → Int32, z9 = (upd (σ.2.2.1 67) (Int32.toNatClampNeg 1) 1) := ⟨_, rfl⟩
    have hP : va_P D vwCl (mwd y ad zw (tI (sI σ 73 i_1) 67 f_11)) H := by rw [ef_11]; exact x_trP hP mwd_s47
    have hD : va_D A (mwd y ad zw (tI (sI σ 73 i_1) 67 f_11)) := by rw [ef_11]; exact x_trD hD mwd_s47
    refine lv_iconst (v := (-1)) hx hb dX12_placeOf_82 (by decide) ?_
    exact x_iretW (v := (-1)) (u := (i_1, f_11)) hx hb hr hQ (by (try dsimp only); exact ⟨by omega, Or.inl ⟨by omega, by rw [ef_11]; show (upd _ 1 _ 1).toInt ≠ 0; rw [x_upd_same]; decide⟩⟩) hP hD hK hS dX12_placeOf_83 hlocks
  · have kc_10 : j_9.toInt = 1 := by have h9 := x_tri j_9 (1 : Int64); (try simp only [Int64.reduceToInt] at h9); rcases h9 with ⟨g1, g2⟩ | ⟨g1, g2⟩ | ⟨g1, g2⟩ <;> first | omega | (exfalso; rw [g1] at c_10; revert c_10; decide)
    refine lv_lload_n hx hb dX12_placeOf_56 rfl (lv_at hl 0 rfl) ?_
    refine lv_lconst (v := 0) hx hb dX12_placeOf_57 (by decide) ?_
    refine lv_aload_n hx hb dX12_placeOf_58 rfl (lv_at hl 1 rfl) ?_
    refine va_get (D := D) (ci := 11) (v := .ref (ad 25)) (C := RX12) (T := TX12) (N := 85) hx hb hts inX12 hown hK hP 0 mwd_o0 rfl 25 (by decide) fl63 (fun _ h9 => h9) rfl dX12_placeOf_59 ?_
    refine lv_iconst (v := 4) hx hb dX12_placeOf_62 (by decide) ?_
    refine lv_iload_n hx hb dX12_placeOf_63 rfl (lv_at hl 3 rfl) ?_
    refine lv_iadd hx hb dX12_placeOf_64 ?_
    refine lv_topi (fun i_12 ei_12 => ?_)
    have vi_12 : i_12.toInt = 4 + k.toInt := by have h9 := x_add ei_12 (by omega) (by omega); omega
    refine va_iald hx hb hK hP 17 2 mwd_a17 rfl (x_in (by omega) (by omega)) dX12_placeOf_65 ?_
    refine lv_topi (fun i_13 ei_13 => ?_)
    have ei_13 : i_13 = (σ.2.2.1 25) (Int32.toNatClampNeg i_12) := ei_13
    have bi_13 := b_at hB25 ei_13
    refine lv_iconst (v := 1) hx hb dX12_placeOf_66 (by decide) ?_
    refine lv_isub hx hb dX12_placeOf_67 ?_
    refine lv_topi (fun i_14 ei_14 => ?_)
    have vi_14 : i_14.toInt = i_13.toInt - 1 := by have h9 := x_sub ei_14 (by omega) (by omega); omega
    refine lv_i2l hx hb dX12_placeOf_68 rfl ?_
    refine lv_topl (fun j_15 ej_15 => ?_)
    have vj_15 : j_15.toInt = i_14.toInt := by rw [ej_15]; exact Int32.toInt_toInt64 _
    refine x_calliN (va_runS (As := [.long j_5, .long 0, .long j_15]) (rest := []) ⟨hx, hb, hml, hown, hts⟩ (q_isIn l D y H.size j_5 0 j_15) (cwS 3 hts g_q_placeOf1_0 rfl rfl rfl (by decide +kernel) ⟨Nat.le_of_ble_eq_true rfl, Nat.le_of_ble_eq_true rfl⟩) (x_preS hK (x_nilP D H) (x_nilD A)) rfl rfl hl.1 rfl (lv_room (Nat.le_of_ble_eq_true rfl)) dX12_placeOf_69 ⟨Nat.le_of_ble_eq_true rfl, Nat.le_of_ble_eq_true rfl⟩) hP hD hS hA (fun r_16 u H locs hw hP hD hS => ?_)
    try dsimp only at hw
    refine lv_if_ne (tgt := 84) hx hb dX12_placeOf_72 (by decide) (fun c_17 => ?_) (fun c_17 => ?_)
    · have kc_17 : r_16.toInt ≠ 0 := by have h9 := c_17; simp only [ge_iff_le, gt_iff_lt, x_lt, x_le, x_eq, ne_eq, Int32.not_lt, Int32.not_le] at h9; simp only [Int32.reduceToInt] at h9; omega
      refine lv_bipush (v := 20) hx hb dX12_placeOf_84 (by decide) ?_
      refine lv_bipush (v := 16) hx hb dX12_placeOf_86 (by decide) ?_
      refine lv_iload_n hx hb dX12_placeOf_88 rfl (lv_at hl 3 rfl) ?_
      refine lv_imul hx hb dX12_placeOf_89 ?_
      refine lv_topi (fun i_18 ei_18 => ?_)
      have vi_18 : i_18.toInt = 16 * k.toInt := by have h9 := x_mulIl (n := 16) ei_18 rfl (by omega) (by omega); omega
      refine lv_iadd hx hb dX12_placeOf_90 ?_
      refine lv_topi (fun i_19 ei_19 => ?_)
      have vi_19 : i_19.toInt = 20 + i_18.toInt := by have h9 := x_add ei_19 (by omega) (by omega); omega
      refine lv_lload_n hx hb dX12_placeOf_91 rfl (lv_at hl 0 rfl) ?_
      refine lv_l2i hx hb dX12_placeOf_92 rfl ?_
      refine lv_topi (fun i_20 ei_20 => ?_)
      have vi_20 := x_l2i ei_20 (by omega) (by omega)
      refine lv_iadd hx hb dX12_placeOf_93 ?_
      refine lv_topi (fun i_21 ei_21 => ?_)
      have vi_21 : i_21.toInt = i_19.toInt + i_20.toInt := by have h9 := x_add ei_21 (by omega) (by omega); omega
      have hP : va_P D vwCl (mwd y ad zw (tI (sI σ 73 i_1) 67 (σ.2.2.1 67))) H := hP
      have hD : va_D A (mwd y ad zw (tI (sI σ 73 i_1) 67 (σ.2.2.1 67))) := hD
      exact x_iretW (v := i_21) (u := (i_1, (σ.2.2.1 67))) hx hb hr hQ (by (try dsimp only); exact ⟨by omega, Or.inr ⟨by omega, by omega, rfl⟩⟩) hP hD hK hS dX12_placeOf_94 hlocks
    · have kc_17 : r_16.toInt = 0 := by have h9 := c_17; simp only [ge_iff_le, gt_iff_lt, x_lt, x_le, x_eq, ne_eq, Int32.not_lt, Int32.not_le] at h9; simp only [Int32.reduceToInt] at h9; omega
      refine lv_aload_n hx hb dX12_placeOf_75 rfl (lv_at hl 1 rfl) ?_
      refine va_get (D := D) (ci := 11) (v := .ref (ad 67)) (C := RX12) (T := TX12) (N := 85) hx hb hts inX12 hown hK hP 0 mwd_o0 rfl 67 (by decide) fl154 (fun _ h9 => h9) rfl dX12_placeOf_76 ?_
      refine lv_iload_n hx hb dX12_placeOf_79 rfl (lv_at hl 2 rfl) ?_
      refine lv_iconst (v := 1) hx hb dX12_placeOf_80 (by decide) ?_
      refine va_iast hx hb hK hP hD hS 47 2 mwd_a47 rfl (x_in (by decide) (by decide)) dX12_placeOf_81 (fun H locs hP hD hS => ?_)
      obtain ⟨f_22, ef_22⟩ : ∃ z9 : Nat → Int32, z9 = (upd (σ.2.2.1 67) (Int32.toNatClampNeg 1) 1) := ⟨_, rfl⟩
      have hP : va_P D vwCl (mwd y ad zw (tI (sI σ 73 i_1) 67 f_22)) H := by rw [ef_22]; exact x_trP hP mwd_s47
      have hD : va_D A (mwd y ad zw (tI (sI σ 73 i_1) 67 f_22)) := by rw [ef_22]; exact x_trD hD mwd_s47
      refine lv_iconst (v := (-1)) hx hb dX12_placeOf_82 (by decide) ?_
      exact x_iretW (v := (-1)) (u := (i_1, f_22)) hx hb hr hQ (by (try dsimp only); exact ⟨by omega, Or.inl ⟨by omega, by rw [ef_22]; show (upd _ 1 _ 1).toInt ≠ 0; rw [x_upd_same]; decide⟩⟩) hP hD hK hS dX12_placeOf_83 hlocks

