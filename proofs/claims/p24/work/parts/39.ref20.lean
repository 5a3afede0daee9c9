theorem dX12_hasSquare_0 : decode cX12_hasSquare 0 = .ok (.iconst 0, 1) := by decide +kernel
theorem dX12_hasSquare_1 : decode cX12_hasSquare 1 = .ok (.istore_n 1, 1) := by decide +kernel
theorem dX12_hasSquare_2 : decode cX12_hasSquare 2 = .ok (.iload_n 1, 1) := by decide +kernel
theorem dX12_hasSquare_3 : decode cX12_hasSquare 3 = .ok (.aload_n 0, 1) := by decide +kernel
theorem dX12_hasSquare_4 : decode cX12_hasSquare 4 = .ok (.getfield 263, 3) := by decide +kernel
theorem dX12_hasSquare_7 : decode cX12_hasSquare 7 = .ok (.if_icmp .ge 22, 3) := by decide +kernel
theorem dX12_hasSquare_10 : decode cX12_hasSquare 10 = .ok (.aload_n 0, 1) := by decide +kernel
theorem dX12_hasSquare_11 : decode cX12_hasSquare 11 = .ok (.getfield 75, 3) := by decide +kernel
theorem dX12_hasSquare_14 : decode cX12_hasSquare 14 = .ok (.iload_n 1, 1) := by decide +kernel
theorem dX12_hasSquare_15 : decode cX12_hasSquare 15 = .ok (.iaload, 1) := by decide +kernel
theorem dX12_hasSquare_16 : decode cX12_hasSquare 16 = .ok (.bipush 30, 2) := by decide +kernel
theorem dX12_hasSquare_18 : decode cX12_hasSquare 18 = .ok (.if_icmp .ne 5, 3) := by decide +kernel
theorem dX12_hasSquare_21 : decode cX12_hasSquare 21 = .ok (.iconst 1, 1) := by decide +kernel
theorem dX12_hasSquare_22 : decode cX12_hasSquare 22 = .ok (.ireturn, 1) := by decide +kernel
theorem dX12_hasSquare_23 : decode cX12_hasSquare 23 = .ok (.iinc 1 1, 3) := by decide +kernel
theorem dX12_hasSquare_26 : decode cX12_hasSquare 26 = .ok (.goto (-24), 3) := by decide +kernel
theorem dX12_hasSquare_29 : decode cX12_hasSquare 29 = .ok (.iconst 0, 1) := by decide +kernel
theorem dX12_hasSquare_30 : decode cX12_hasSquare 30 = .ok (.ireturn, 1) := by decide +kernel
def v_q_hasSquare : List Cond := .code yX12_hasSquare cX12_hasSquare 2 (some .boolean) :: ([.fieldLink RX12 263 "SlopeRunnerModel" "waits" "I", .fieldLink RX12 75 "SlopeRunnerModel" "wait" "[I"] ++ wsX120)
set_option maxHeartbeats 4000000 in
set_option maxRecDepth 100000 in
theorem q_hasSquare (l : Launch) (D : va_G) (y : Nat → ClassId) (sz : Nat) (ad : Nat → Nat) (zw : Nat → Nat → Int32) (σ : OS) (hw0 : 0 ≤ (σ.1 31).toInt) (hw1 : (σ.1 31).toInt ≤ 800) : Met l yX12_hasSquare v_q_hasSquare ({ frames := 0, cells := 0, slots := 0, locals := 0 } : Room) (va_Pc [.ref (ad 1)] (xPre D (xT y) (mwd y ad zw σ) sz)) (va_Qi (fun (r : Int32) (_ : Unit) => (r.toInt = 1 ∧ ∃ k : Nat, k < (σ.1 31).toInt.toNat ∧ ((σ.2.2.1 30) k).toInt = 30) ∨ (r.toInt = 0 ∧ ∀ k : Nat, k < (σ.1 31).toInt.toNat → ((σ.2.2.1 30) k).toInt ≠ 30)) (fun (u : Unit) => xB D (xT y) (va_A (mwd y ad zw σ) sz) (mwd y ad zw σ)) (va_A (mwd y ad zw σ) sz)) 0 0 (va_A (mwd y ad zw σ) sz) := by
  refine x_meti (cc := cX12_hasSquare) (maxL := 2) (by decide) rfl (Nat.le_of_ble_eq_true rfl) ?_
  intro p e s m below meth c A H locs Q hx hb hml hown hts hr hlocks hmn hA hP hK hD hS ls hl hQ
  have hl : lv_has ls 2 [(0, .ref (ad 1))] := hl
  have fl263 := hts (.fieldLink RX12 263 "SlopeRunnerModel" "waits" "I") (List.mem_of_getElem? (i := 1) rfl)
  have inX12 : ∀ w ∈ wsX120, w ∈ v_q_hasSquare := (fun w h => List.mem_cons_of_mem _ (List.mem_append_right _ h))
  have kk_0 : (0 : Int32).toInt = 0 := rfl
  have fl75 := hts (.fieldLink RX12 75 "SlopeRunnerModel" "wait" "[I") (List.mem_of_getElem? (i := 2) rfl)
  have kk_30 : (30 : Int32).toInt = 30 := rfl
  have kk_1 : (1 : Int32).toInt = 1 := rfl
  refine lv_iconst (v := 0) hx hb dX12_hasSquare_0 (by decide) ?_
  refine lv_istore_n (lv' := [(1, .int 0), (0, .ref (ad 1))]) hx hb dX12_hasSquare_1 rfl hl (by decide) rfl (fun ls hl => ?_)
  have loop : ∀ (fu : Nat) (i : Int32) (H : Heap) (locs : List Loc) (ls : Array Slot), (0 ≤ i.toInt) → (i.toInt ≤ (σ.1 31).toInt) → (∀ k : Nat, k < i.toInt.toNat → ((σ.2.2.1 30) k).toInt ≠ 30) → ((σ.1 31).toInt - i.toInt < (fu : Int)) → va_P D vwCl (mwd y ad zw σ) H → va_D A (mwd y ad zw σ) → va_S A s.heap H locs → lv_has ls 2 [(1, .int i), (0, .ref (ad 1))] → W p l e ({ frames := 0, cells := 0, slots := 0, locals := 0 } : Room) s m ([.ref (ad 1)] : List Value).toArray below meth c H locs 0 0 Q (F0 m 2 ls []) := by
    intro fu
    induction fu with
    | zero =>
      intro i H locs ls hi0 hi1 hi2 hm
      exact absurd hm (by omega)
    | succ fu ih_loop =>
      intro i H locs ls hi0 hi1 hi2 hm hP hD hS hl
      refine lv_iload_n hx hb dX12_hasSquare_2 rfl (lv_at hl 0 rfl) ?_
      refine lv_aload_n hx hb dX12_hasSquare_3 rfl (lv_at hl 1 rfl) ?_
      refine va_get (D := D) (ci := 11) (v := .int (σ.1 31)) (C := RX12) (T := TX12) (N := 85) hx hb hts inX12 hown hK hP 0 mwd_o0 rfl 31 (by decide) fl263 (fun _ h9 => h9) rfl dX12_hasSquare_4 ?_
      refine lv_icmp_ge (tgt := 29) hx hb dX12_hasSquare_7 (by decide) (fun c_1 => ?_) (fun c_1 => ?_)
      · have kc_1 : i.toInt ≥ (σ.1 31).toInt := by have h9 := c_1; simp only [ge_iff_le, gt_iff_lt, x_lt, x_le, x_eq, ne_eq, Int32.not_lt, Int32.not_le] at h9; omega
        refine lv_iconst (v := 0) hx hb dX12_hasSquare_29 (by decide) ?_
        exact x_zretW (v := 0) (u := ()) hx hb hr hQ rfl (Or.inr ⟨rfl, fun k h9 => hi2 k (by omega)⟩) hP hD hK hS dX12_hasSquare_30 hlocks
      · have kc_1 : i.toInt < (σ.1 31).toInt := by have h9 := c_1; simp only [ge_iff_le, gt_iff_lt, x_lt, x_le, x_eq, ne_eq, Int32.not_lt, Int32.not_le] at h9; omega
        refine lv_aload_n hx hb dX12_hasSquare_10 rfl (lv_at hl 1 rfl) ?_
        refine va_get (D := D) (ci := 11) (v := .ref (ad 30)) (C := RX12) (T := TX12) (N := 85) hx hb hts inX12 hown hK hP 0 mwd_o0 rfl 30 (by decide) fl75 (fun _ h9 => h9) rfl dX12_hasSquare_11 ?_
        refine lv_iload_n hx hb dX12_hasSquare_14 rfl (lv_at hl 0 rfl) ?_
        refine va_iald hx hb hK hP 21 2 mwd_a21 rfl (x_in (by omega) (by omega)) dX12_hasSquare_15 ?_
        refine lv_topi (fun i_2 ei_2 => ?_)
        have ei_2 : i_2 = (σ.2.2.1 30) (Int32.toNatClampNeg i) := ei_2
        have qi_2 : i_2.toInt = ((σ.2.2.1 30) i.toInt.toNat).toInt := by rw [ei_2]; rfl
        refine lv_bipush (v := 30) hx hb dX12_hasSquare_16 (by decide) ?_
        refine lv_icmp_ne (tgt := 23) hx hb dX12_hasSquare_18 (by decide) (fun c_3 => ?_) (fun c_3 => ?_)
        · have kc_3 : i_2.toInt ≠ 30 := by have h9 := c_3; simp only [ge_iff_le, gt_iff_lt, x_lt, x_le, x_eq, ne_eq, Int32.not_lt, Int32.not_le] at h9; simp only [Int32.reduceToInt] at h9; omega
          obtain ⟨i_4, ei_4⟩ : ∃ z9 : Int32, z9 = i + 1 := ⟨_, rfl⟩
          have vi_4 : i_4.toInt = i.toInt + 1 := by have h9 := x_add ei_4 (by omega) (by omega); omega
          refine lv_iinc (v := i_4) (lv' := [(1, .int i_4), (0, .ref (ad 1))]) hx hb dX12_hasSquare_23 hl (k := 0) rfl (by rw [ei_4]; rfl) (by decide) rfl (fun ls hl => ?_)
          refine lv_goto (tgt := 2) hx hb dX12_hasSquare_26 (by decide) ?_
          exact ih_loop i_4 H locs ls (by omega) (by omega) (fun k h9 => by rcases Nat.lt_or_ge k i.toInt.toNat with h8 | h8 <;> first | exact hi2 k h8 | (rw [show k = i.toInt.toNat from (by omega)]; omega)) (by omega) hP hD hS (lv_sub hl [0, 1] rfl)
        · have kc_3 : i_2.toInt = 30 := by have h9 := c_3; simp only [ge_iff_le, gt_iff_lt, x_lt, x_le, x_eq, ne_eq, Int32.not_lt, Int32.not_le] at h9; simp only [Int32.reduceToInt] at h9; omega
          refine lv_iconst (v := 1) hx hb dX12_hasSquare_21 (by decide) ?_
          exact x_zretW (v := 1) (u := ()) hx hb hr hQ rfl (Or.inl ⟨rfl, i.toInt.toNat, by omega, by omega⟩) hP hD hK hS dX12_hasSquare_22 hlocks
  exact loop 801 0 H locs ls (by decide) hw0 (fun k h9 => absurd h9 (Nat.not_lt_zero k)) (by have h7 : (0 : Int32).toInt = 0 := rfl; omega) hP hD hS (lv_sub hl [0, 1] rfl)

